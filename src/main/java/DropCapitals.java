/** Great first letters let down into their paragraphs, as ../shared/DOC.md tells by its promises. */
public final class DropCapitals {
    public static final int BAD = -1, STATE = -2, FULL = -3, NONE = -4;

    private static final int TAPE_MAX = 400;
    private static final int SHAPES_MAX = 6;
    private static final int STEPS_MAX = 8;
    private static final int HEIGHT_MAX = 60;
    private static final int EXTENT_MAX = 60;
    private static final int PARS_MAX = 8;
    private static final int WORDS_MAX = 80;
    private static final int LETTERS_MAX = 6;
    private static final int DROP_LEAST = 2;
    private static final int DROP_MOST = 5;
    private static final int IMAGES_MAX = 2;

    // The settings stand in one row; rule() and set() number them from 8 on.
    private static final int SETTINGS = 6;
    private static final int SETTINGS_FROM = 8;
    private static final int MEASURE = 0;
    private static final int LEADING = 1;
    private static final int CAP = 2;
    private static final int GAP = 3;
    private static final int MODE = 4;
    private static final int POLICY = 5;
    private static final int[] SETTING_LEAST = {20, 4, 2, 0, 0, 0};
    private static final int[] SETTING_MOST = {99, 20, 20, 9, 1, 2};
    private static final int[] SETTING_AT_FIRST = {40, 8, 5, 1, 0, 0};
    private static final int EVEN = 1;
    private static final int TELL = 0;
    private static final int PUSH = 1;
    private static final int WRAP = 2;

    // H is 4 times LEADING and 20 at most, LEADING 4 at least: a letter never has more than 9 bands.
    private static final int BANDS_MAX = 9;
    // Each line has a word, or stands empty beside the letter of a paragraph ahead.
    private static final int LINES_MAX = WORDS_MAX + PARS_MAX * BANDS_MAX;

    private final byte[] tape = new byte[TAPE_MAX];
    private int tapeLength;
    private final Shapes shapes = new Shapes();
    private final Pages pages = new Pages();
    private final Shapes newShapes = new Shapes();
    private final Pages newPages = new Pages();
    private final Reader reader = new Reader(tape, newShapes, newPages);
    private final Drawing drawing = new Drawing(shapes, pages);
    private final Breaker breaker = new Breaker();
    private final Layout layout = new Layout(pages, drawing, breaker);
    private final Layout trial = new Layout(pages, drawing, breaker);
    private boolean stale = true;
    private final Pages image0 = new Pages();
    private final Pages image1 = new Pages();
    private boolean kept0;
    private boolean kept1;

    public DropCapitals() {
    }

    // ---- the text

    public int feed(int c) {
        if (c < 0 || c > 127) {
            return BAD;
        }
        if (tapeLength >= TAPE_MAX) {
            return FULL;
        }
        tape[tapeLength] = (byte) c;
        tapeLength++;
        return tapeLength;
    }

    public int end(int n) {
        if (n < 0 || n > tapeLength) {
            return BAD;
        }
        int had = tapeLength;
        tapeLength = n;
        return had;
    }

    public int text() {
        newPages.takeSettings(pages);
        int answer = reader.readAll(tapeLength);
        tapeLength = 0;
        if (reader.faultKind() == 0) {
            shapes.copyFrom(newShapes);
            pages.copyFrom(newPages);
            kept0 = false;
            kept1 = false;
            stale = true;
        }
        return answer;
    }

    public int fault() {
        return reader.faultKind();
    }

    // ---- what is told

    public int rule(int what) {
        if (what >= SETTINGS_FROM && what < SETTINGS_FROM + SETTINGS) {
            return pages.settings[what - SETTINGS_FROM];
        }
        switch (what) {
            case 0: return shapes.count;
            case 1: return pages.count;
            case 2: return pages.total;
            case 3: return pages.unlikeWords();
            case 4: return laid().lines;
            case 5: return laid().emptyLines();
            case 6: return laid().clashesWithin(0, LINES_MAX);
            case 7: return laid().oversWithin(0, LINES_MAX);
            case 14: return tapeLength;
            case 15: return (kept0 ? 1 : 0) + (kept1 ? 1 : 0);
            default: return BAD;
        }
    }

    public int shape(int g, int what) {
        if (!isShape(g)) {
            return BAD;
        }
        switch (what) {
            case 0: return shapes.signs[g];
            case 1: return shapes.heights[g];
            case 2: return shapes.steps[g];
            case 3: return shapes.greatestExtent(g);
            default: return BAD;
        }
    }

    public int step(int g, int i, int what) {
        if (!isShape(g) || i < 0 || what < 0 || what > 1) {
            return BAD;
        }
        if (i >= shapes.steps[g]) {
            return NONE;
        }
        return what == 0 ? shapes.depthOf(g, i) : shapes.extentOf(g, i);
    }

    public int par(int p, int what) {
        if (!isPar(p)) {
            return BAD;
        }
        switch (what) {
            case 0: return pages.sizes[p];
            case 1: return pages.shapeOf[p];
            case 2: return pages.drops[p];
            case 3: return drawnHeight(p);
            default: return parLies(p, what);
        }
    }

    public int word(int p, int i, int what) {
        if (!isPar(p) || i < 0 || what < 0 || what > 4) {
            return BAD;
        }
        if (i >= pages.sizes[p]) {
            return NONE;
        }
        int code = pages.wordOf(p, i);
        switch (what) {
            case 0: return lettersIn(code);
            case 1: return widthOf(code);
            case 2: return pages.likeWords(code);
            case 3: return laid().lineWith(p, i);
            default: return laid().placeOf(p, i);
        }
    }

    public int letter(int p, int i, int k) {
        if (!isPar(p) || i < 0 || k < 0) {
            return BAD;
        }
        if (i >= pages.sizes[p]) {
            return NONE;
        }
        int code = pages.wordOf(p, i);
        return k >= lettersIn(code) ? NONE : letterOf(code, k);
    }

    // ---- how it lies

    public int drawn(int p, int i, int what) {
        if (!isPar(p) || i < 0 || what < 0 || what > 2) {
            return BAD;
        }
        drawing.draw(p);
        if (i >= drawing.steps) {
            return NONE;
        }
        switch (what) {
            case 0: return drawing.begins[i];
            case 1: return drawing.stops[i];
            default: return drawing.extents[i];
        }
    }

    public int reach(int p, int j) {
        if (!isPar(p) || j < 0) {
            return BAD;
        }
        if (!pages.hasShape(p)) {
            return NONE;
        }
        drawing.draw(p);
        return drawing.reachAt(j);
    }

    public int line(int l, int what) {
        Layout lies = laid();
        if (l < 0 || l >= lies.lines || what < 0 || what > 7) {
            return BAD;
        }
        if (lies.owners[l] < 0) {
            return NONE;
        }
        switch (what) {
            case 0: return lies.owners[l];
            case 1: return lies.firstWords[l];
            case 2: return lies.wordCounts[l];
            case 3: return lies.indents[l];
            case 4: return lies.rooms[l];
            case 5: return lies.useds[l];
            case 6: return lies.isOver(l) ? 1 : 0;
            default: return lies.clashes[l] ? 1 : 0;
        }
    }

    public int sign(int l, int k) {
        Layout lies = laid();
        if (l < 0 || l >= lies.lines || k < 0) {
            return BAD;
        }
        int p = lies.owners[l];
        if (p < 0) {
            return NONE;
        }
        int at = k;
        for (int i = 0; i < lies.wordCounts[l]; i++) {
            int code = pages.wordOf(p, lies.firstWords[l] + i);
            int letters = lettersIn(code);
            if (at < letters) {
                return letterOf(code, at);
            }
            boolean last = i == lies.wordCounts[l] - 1;
            if (at == letters && !last) {
                return 0;
            }
            at -= letters + 1;
            if (at < 0) {
                return NONE;
            }
        }
        return NONE;
    }

    public int best(int p) {
        if (!isPar(p)) {
            return BAD;
        }
        return pages.hasShape(p) ? bestDrop(p) : NONE;
    }

    public int tried(int p, int n) {
        if (!isPar(p) || !isDrop(n)) {
            return BAD;
        }
        if (!pages.hasShape(p)) {
            return NONE;
        }
        layTrial(p, n);
        return trial.lines;
    }

    // ---- by hand

    public int set(int what, int v) {
        if (what < SETTINGS_FROM || what >= SETTINGS_FROM + SETTINGS) {
            return BAD;
        }
        int which = what - SETTINGS_FROM;
        if (v < SETTING_LEAST[which] || v > SETTING_MOST[which]) {
            return BAD;
        }
        int was = pages.settings[which];
        pages.settings[which] = v;
        stale = true;
        return was;
    }

    public int drop(int p, int g, int n) {
        if (!isPar(p)) {
            return BAD;
        }
        boolean none = g == NONE && n == 0;
        if (!none && (!isShape(g) || !isDrop(n))) {
            return BAD;
        }
        int had = pages.drops[p];
        pages.shapeOf[p] = g;
        pages.drops[p] = n;
        stale = true;
        return had;
    }

    public int fit() {
        int changed = 0;
        for (int p = 0; p < pages.count; p++) {
            if (pages.hasShape(p)) {
                int n = bestDrop(p);
                if (n != pages.drops[p]) {
                    pages.drops[p] = n;
                    changed++;
                }
            }
        }
        stale = true;
        return changed;
    }

    public int cut(int p, int i) {
        if (!isPar(p) || i <= 0 || i >= pages.sizes[p]) {
            return BAD;
        }
        if (pages.count >= PARS_MAX) {
            return FULL;
        }
        pages.split(p, i);
        stale = true;
        return pages.count;
    }

    public int join(int p) {
        if (!isPar(p)) {
            return BAD;
        }
        if (p + 1 >= pages.count) {
            return NONE;
        }
        pages.unite(p);
        stale = true;
        return pages.sizes[p];
    }

    public int move(int p, int i, int q, int k) {
        if (!isPar(p) || i < 0 || i >= pages.sizes[p]) {
            return BAD;
        }
        if (!isPar(q) || k != NONE && (k < 0 || k >= pages.sizes[q])) {
            return BAD;
        }
        if (pages.sizes[p] == 1 || p == q && i == k) {
            return STATE;
        }
        pages.carry(p, i, q, k == NONE ? 0 : k + 1);
        stale = true;
        return pages.sizes[q];
    }

    // ---- images

    public int keep(int k) {
        if (k < 0 || k >= IMAGES_MAX) {
            return BAD;
        }
        int was = isKept(k) ? 1 : 0;
        imageOf(k).copyFrom(pages);
        if (k == 0) {
            kept0 = true;
        } else {
            kept1 = true;
        }
        return was;
    }

    public int back(int k) {
        if (k < 0 || k >= IMAGES_MAX) {
            return BAD;
        }
        if (!isKept(k)) {
            return STATE;
        }
        pages.copyFrom(imageOf(k));
        stale = true;
        return pages.count;
    }

    private boolean isKept(int k) {
        return k == 0 ? kept0 : kept1;
    }

    private Pages imageOf(int k) {
        return k == 0 ? image0 : image1;
    }

    private boolean isShape(int g) {
        return g >= 0 && g < shapes.count;
    }

    private boolean isPar(int p) {
        return p >= 0 && p < pages.count;
    }

    private static boolean isDrop(int n) {
        return n >= DROP_LEAST && n <= DROP_MOST;
    }

    /** The lines as they lie now: laid anew only behind a change, since most calls only ask. */
    private Layout laid() {
        if (stale) {
            layout.layAll();
            stale = false;
        }
        return layout;
    }

    private int drawnHeight(int p) {
        drawing.draw(p);
        return drawing.height;
    }

    private int parLies(int p, int what) {
        Layout lies = laid();
        int from = lies.begins[p];
        int to = lies.ends[p];
        switch (what) {
            case 4: return from;
            case 5: return to - from;
            case 6: return lies.clashesWithin(from, to);
            case 7: return lies.firstClashWithin(from, to);
            case 8: return lies.oversWithin(from, to);
            case 9: return lies.slacksSquared(from, to - 1);
            default: return BAD;
        }
    }

    /** Lays all out as it would be with another drop; what is told stays as it was. */
    private void layTrial(int p, int n) {
        int had = pages.drops[p];
        pages.drops[p] = n;
        trial.layAll();
        pages.drops[p] = had;
    }

    private int bestDrop(int p) {
        int found = DROP_LEAST;
        int least = 0;
        for (int n = DROP_LEAST; n <= DROP_MOST; n++) {
            layTrial(p, n);
            // lines, then clashes, then over ones in one number: each of them is below 1000
            int mark = trial.lines * 1000000 + trial.clashesWithin(0, LINES_MAX) * 1000
                + trial.oversWithin(0, LINES_MAX);
            if (n == DROP_LEAST || mark <= least) {
                found = n;
                least = mark;
            }
        }
        return found;
    }

    // A word is one number, five bits a letter, the first one lowest: like words are like numbers.

    private static int letterOf(int code, int k) {
        return (code >> 5 * k) & 31;
    }

    private static int lettersIn(int code) {
        int letters = 0;
        for (int k = 0; k < LETTERS_MAX; k++) {
            if (letterOf(code, k) != 0) {
                letters++;
            }
        }
        return letters;
    }

    private static int widthOf(int code) {
        int width = 0;
        for (int k = 0; k < LETTERS_MAX; k++) {
            width += letterWidth(letterOf(code, k));
        }
        return width;
    }

    private static int letterWidth(int letter) {
        switch (letter) {
            case 0: return 0;
            case 9: case 10: case 12: case 20: return 1; // i, j, l, t
            case 13: case 23: return 3; // m, w
            default: return 2;
        }
    }

    /** The outlines, as they are told. */
    private static final class Shapes {
        private int count;
        private final int[] signs = new int[SHAPES_MAX];
        private final int[] heights = new int[SHAPES_MAX];
        private final int[] steps = new int[SHAPES_MAX];
        private final int[] depths = new int[SHAPES_MAX * STEPS_MAX];
        private final int[] extents = new int[SHAPES_MAX * STEPS_MAX];

        void copyFrom(Shapes other) {
            count = other.count;
            System.arraycopy(other.signs, 0, signs, 0, SHAPES_MAX);
            System.arraycopy(other.heights, 0, heights, 0, SHAPES_MAX);
            System.arraycopy(other.steps, 0, steps, 0, SHAPES_MAX);
            System.arraycopy(other.depths, 0, depths, 0, SHAPES_MAX * STEPS_MAX);
            System.arraycopy(other.extents, 0, extents, 0, SHAPES_MAX * STEPS_MAX);
        }

        int withSign(int wanted) {
            for (int g = 0; g < count; g++) {
                if (signs[g] == wanted) {
                    return g;
                }
            }
            return NONE;
        }

        void addShape(int itsSign, int height) {
            if (count < SHAPES_MAX) {
                signs[count] = itsSign;
                heights[count] = height;
                steps[count] = 0;
                count++;
            }
        }

        /** Puts a step behind those of the shape that was added last. */
        void addStep(int depth, int extent) {
            int g = count - 1;
            if (g >= 0 && steps[g] < STEPS_MAX) {
                int at = g * STEPS_MAX + steps[g];
                depths[at] = depth;
                extents[at] = extent;
                steps[g]++;
            }
        }

        int depthOf(int g, int i) {
            return depths[g * STEPS_MAX + i];
        }

        int extentOf(int g, int i) {
            return extents[g * STEPS_MAX + i];
        }

        int greatestExtent(int g) {
            int greatest = 0;
            for (int i = 0; i < steps[g]; i++) {
                greatest = Math.max(greatest, extentOf(g, i));
            }
            return greatest;
        }
    }

    /** What an image holds: the paragraphs with their words, one behind another, and the settings. */
    private static final class Pages {
        private int count;
        private int total;
        private final int[] words = new int[WORDS_MAX];
        private final int[] sizes = new int[PARS_MAX];
        private final int[] shapeOf = new int[PARS_MAX];
        private final int[] drops = new int[PARS_MAX];
        private final int[] settings = SETTING_AT_FIRST.clone();

        void copyFrom(Pages other) {
            count = other.count;
            total = other.total;
            System.arraycopy(other.words, 0, words, 0, WORDS_MAX);
            System.arraycopy(other.sizes, 0, sizes, 0, PARS_MAX);
            System.arraycopy(other.shapeOf, 0, shapeOf, 0, PARS_MAX);
            System.arraycopy(other.drops, 0, drops, 0, PARS_MAX);
            takeSettings(other);
        }

        void takeSettings(Pages other) {
            System.arraycopy(other.settings, 0, settings, 0, SETTINGS);
        }

        void empty() {
            count = 0;
            total = 0;
        }

        void addPar(int g, int n) {
            if (count < PARS_MAX) {
                sizes[count] = 0;
                shapeOf[count] = g;
                drops[count] = n;
                count++;
            }
        }

        /** Puts a word behind those of the last paragraph. */
        void addWord(int code) {
            if (count > 0 && total < WORDS_MAX) {
                words[total] = code;
                total++;
                sizes[count - 1]++;
            }
        }

        boolean hasShape(int p) {
            return shapeOf[p] >= 0;
        }

        int firstOf(int p) {
            int first = 0;
            for (int q = 0; q < p; q++) {
                first += sizes[q];
            }
            return first;
        }

        int wordOf(int p, int i) {
            return words[firstOf(p) + i];
        }

        int likeWords(int code) {
            int like = 0;
            for (int w = 0; w < total; w++) {
                if (words[w] == code) {
                    like++;
                }
            }
            return like;
        }

        int unlikeWords() {
            int unlike = 0;
            for (int w = 0; w < total; w++) {
                if (!comesAhead(w)) {
                    unlike++;
                }
            }
            return unlike;
        }

        private boolean comesAhead(int w) {
            for (int v = 0; v < w; v++) {
                if (words[v] == words[w]) {
                    return true;
                }
            }
            return false;
        }

        void split(int p, int i) {
            for (int q = count; q > p + 1; q--) {
                takePar(q, q - 1);
            }
            count++;
            sizes[p + 1] = sizes[p] - i;
            shapeOf[p + 1] = NONE;
            drops[p + 1] = 0;
            sizes[p] = i;
        }

        void unite(int p) {
            sizes[p] += sizes[p + 1];
            count--;
            for (int q = p + 1; q < count; q++) {
                takePar(q, q + 1);
            }
        }

        private void takePar(int to, int from) {
            sizes[to] = sizes[from];
            shapeOf[to] = shapeOf[from];
            drops[to] = drops[from];
        }

        /** Carries word i of p ahead of what is word k of q (or behind its last one). */
        void carry(int p, int i, int q, int k) {
            int from = firstOf(p) + i;
            int to = firstOf(q) + k;
            int code = words[from];
            for (int w = from; w < to - 1; w++) {
                words[w] = words[w + 1];
            }
            for (int w = from; w > to; w--) {
                words[w] = words[w - 1];
            }
            words[from < to ? to - 1 : to] = code;
            sizes[p]--;
            sizes[q]++;
        }
    }

    /** Reads the tape into new shapes and pages, up to its first fault. */
    private static final class Reader {
        private static final int WRONG = 0;
        private static final int NAME = 1;
        private static final int NUMBER = 2;
        private static final int COLON = 3;
        private static final int SEMICOLON = 4;
        private static final int END = 5;

        private static final int NO_TOKEN = 1;
        private static final int MISPLACED = 2;
        private static final int OUT_OF_BOUNDS = 3;
        private static final int TOLD_BEFORE = 4;
        private static final int TOO_MANY = 5;

        private final byte[] bytes;
        private final Shapes shapes;
        private final Pages pages;
        private int length;
        private int place;
        // the token at hand: its kind, first byte, number of bytes, and what a NUMBER says
        private int kind;
        private int start;
        private int size;
        private int number;
        private int toldSettings;
        private int faulty;

        Reader(byte[] tapeBytes, Shapes newShapes, Pages newPages) {
            bytes = tapeBytes;
            shapes = newShapes;
            pages = newPages;
        }

        int faultKind() {
            return faulty;
        }

        /** How many lines there are; -10 less the place of the first fault. */
        int readAll(int tapeLength) {
            length = Math.min(tapeLength, bytes.length);
            place = 0;
            toldSettings = 0;
            faulty = 0;
            shapes.count = 0;
            pages.empty();
            for (int lines = 0; lines <= TAPE_MAX; lines++) {
                advance();
                if (kind == END) {
                    return lines;
                }
                if (!readLine()) {
                    break;
                }
            }
            return -10 - start;
        }

        private boolean readLine() {
            if (kind != NAME) {
                return refuse(MISPLACED);
            }
            if (isNamed("set")) {
                return readSetting();
            }
            if (isNamed("shape")) {
                return shapes.count >= SHAPES_MAX ? refuse(TOO_MANY) : readShape();
            }
            if (isNamed("par")) {
                return pages.count >= PARS_MAX ? refuse(TOO_MANY) : readPar();
            }
            return refuse(MISPLACED);
        }

        private boolean readSetting() {
            advance();
            int which = kind == NAME ? settingNamed() : NONE;
            if (which < 0) {
                return refuse(MISPLACED);
            }
            int bit = 1 << which;
            if ((toldSettings & bit) != 0) {
                return refuse(TOLD_BEFORE);
            }
            if (!readNumber(SETTING_LEAST[which], SETTING_MOST[which])) {
                return false;
            }
            toldSettings |= bit;
            pages.settings[which] = number;
            advance();
            return kind == SEMICOLON || refuse(MISPLACED);
        }

        private boolean readShape() {
            advance();
            if (kind != NAME || size != 1) {
                return refuse(MISPLACED);
            }
            int itsSign = letterAt(start);
            if (shapes.withSign(itsSign) >= 0) {
                return refuse(TOLD_BEFORE);
            }
            if (!readNumber(1, HEIGHT_MAX)) {
                return false;
            }
            int height = number;
            shapes.addShape(itsSign, height);
            int least = 0;
            for (int i = 0; i <= STEPS_MAX; i++) {
                advance();
                if (kind == SEMICOLON && i > 0) {
                    return true;
                }
                if (kind != NUMBER || i == STEPS_MAX) {
                    return refuse(MISPLACED);
                }
                int depth = number;
                int most = i == 0 ? 0 : height - 1;
                if (depth < least || depth > most) {
                    return refuse(OUT_OF_BOUNDS);
                }
                if (!readNumber(0, EXTENT_MAX)) {
                    return false;
                }
                shapes.addStep(depth, number);
                least = depth + 1;
            }
            return refuse(MISPLACED);
        }

        private boolean readPar() {
            advance();
            int g = NONE;
            int n = 0;
            if (kind == NAME) {
                g = size == 1 ? shapes.withSign(letterAt(start)) : NONE;
                if (g < 0) {
                    return refuse(MISPLACED);
                }
                if (!readNumber(DROP_LEAST, DROP_MOST)) {
                    return false;
                }
                n = number;
                advance();
            }
            if (kind != COLON) {
                return refuse(MISPLACED);
            }
            pages.addPar(g, n);
            return readWords();
        }

        private boolean readWords() {
            for (int i = 0; i <= WORDS_MAX; i++) {
                advance();
                if (kind == SEMICOLON && i > 0) {
                    return true;
                }
                if (kind != NAME) {
                    return refuse(MISPLACED);
                }
                if (size > LETTERS_MAX) {
                    return refuse(OUT_OF_BOUNDS);
                }
                if (pages.total >= WORDS_MAX) {
                    return refuse(TOO_MANY);
                }
                pages.addWord(wordAtHand());
            }
            return refuse(TOO_MANY);
        }

        private boolean readNumber(int least, int most) {
            advance();
            if (kind != NUMBER) {
                return refuse(MISPLACED);
            }
            return number >= least && number <= most || refuse(OUT_OF_BOUNDS);
        }

        /** Notes the fault of the token at hand; what is no token can't stand anywhere. */
        private boolean refuse(int why) {
            faulty = kind == WRONG ? NO_TOKEN : why;
            return false;
        }

        private void advance() {
            while (place < length && bytes[place] == ' ') {
                place++;
            }
            start = place;
            number = 0;
            if (place >= length) {
                kind = END;
            } else if (isLetter(place)) {
                kind = NAME;
                while (place < length && isLetter(place)) {
                    place++;
                }
            } else if (bytes[place] >= '0' && bytes[place] <= '9') {
                takeFigures();
            } else {
                kind = bytes[place] == ':' ? COLON : bytes[place] == ';' ? SEMICOLON : WRONG;
                place++;
            }
            size = place - start;
        }

        private void takeFigures() {
            while (place < length && bytes[place] >= '0' && bytes[place] <= '9') {
                // only two figures count: a third one makes it wrong, however great it is
                if (place - start < 2) {
                    number = number * 10 + bytes[place] - '0';
                }
                place++;
            }
            kind = place - start > 2 ? WRONG : NUMBER;
        }

        private boolean isLetter(int at) {
            return bytes[at] >= 'a' && bytes[at] <= 'z';
        }

        private int letterAt(int at) {
            return at >= 0 && at < length ? bytes[at] - 'a' + 1 : 0;
        }

        private int wordAtHand() {
            int code = 0;
            for (int k = 0; k < size && k < LETTERS_MAX; k++) {
                code |= letterAt(start + k) << 5 * k;
            }
            return code;
        }

        private boolean isNamed(String name) {
            if (size != name.length()) {
                return false;
            }
            for (int k = 0; k < size; k++) {
                if (bytes[start + k] != name.charAt(k)) {
                    return false;
                }
            }
            return true;
        }

        private int settingNamed() {
            if (isNamed("measure")) {
                return MEASURE;
            }
            if (isNamed("leading")) {
                return LEADING;
            }
            if (isNamed("cap")) {
                return CAP;
            }
            if (isNamed("gap")) {
                return GAP;
            }
            if (isNamed("mode")) {
                return MODE;
            }
            return isNamed("policy") ? POLICY : NONE;
        }
    }

    /** A letter as it is drawn: its outline brought to H, which the drop tells. */
    private static final class Drawing {
        private final Shapes shapes;
        private final Pages pages;
        // the drawn letter of the paragraph at hand; no steps, if it has none
        private int height;
        private int steps;
        private final int[] begins = new int[STEPS_MAX];
        private final int[] stops = new int[STEPS_MAX];
        private final int[] extents = new int[STEPS_MAX];

        Drawing(Shapes toldShapes, Pages toldPages) {
            shapes = toldShapes;
            pages = toldPages;
        }

        void draw(int p) {
            int g = pages.shapeOf[p];
            height = 0;
            steps = 0;
            if (g < 0 || g >= shapes.count || shapes.heights[g] < 1) {
                return;
            }
            int by = shapes.heights[g];
            height = (pages.drops[p] - 1) * pages.settings[LEADING] + pages.settings[CAP];
            steps = shapes.steps[g];
            int stop = height;
            for (int i = steps - 1; i >= 0; i--) {
                begins[i] = shapes.depths[g * STEPS_MAX + i] * height / by;
                stops[i] = stop;
                extents[i] = (shapes.extents[g * STEPS_MAX + i] * height + by - 1) / by;
                stop = begins[i];
            }
        }

        int reachAt(int j) {
            // beyond the last band there is nothing, and j times LEADING could wrap around
            if (j < 0 || j >= BANDS_MAX) {
                return 0;
            }
            int top = j * pages.settings[LEADING];
            int bottom = top + pages.settings[LEADING];
            int greatest = NONE;
            for (int i = 0; i < steps; i++) {
                boolean hasSome = begins[i] < stops[i] && begins[i] < bottom && stops[i] > top;
                if (hasSome && extents[i] > greatest) {
                    greatest = extents[i];
                }
            }
            return greatest < 0 ? 0 : greatest + pages.settings[GAP];
        }
    }

    /** Breaks the words of one paragraph into lines, whose rooms are known beforehand. */
    private static final class Breaker {
        // an over line is dearer than all slacks squared that 80 lines of 99 can have
        private static final int OVER_COST = 1000000;
        private static final int NO_WAY = 1000000000;
        // made times (n less made and 1) is the greatest for 40 lines of 80 words
        private static final int CELLS_MAX = 40 * 41;

        private final int[] widths = new int[WORDS_MAX];
        private final int[] rooms = new int[WORDS_MAX];
        private final int[] counts = new int[WORDS_MAX];
        private final int[] costs = new int[CELLS_MAX];
        private final int[] takes = new int[CELLS_MAX];
        private int first;
        private int words;
        private int made;

        void measureWords(Pages pages) {
            for (int w = 0; w < pages.total; w++) {
                widths[w] = widthOf(pages.words[w]);
            }
        }

        /** As many words into each line as fit: how many lines; no way has fewer. */
        int breakFirst(int firstWord, int n) {
            first = firstWord;
            words = n;
            made = 0;
            int used = 0;
            for (int i = 0; i < n; i++) {
                int width = widths[first + i];
                if (made > 0 && used + 1 + width <= rooms[made - 1]) {
                    used += 1 + width;
                    counts[made - 1]++;
                } else {
                    counts[made] = 1;
                    made++;
                    used = width;
                }
            }
            return made;
        }

        /**
         * Breaks the same paragraph evenly into as many lines as breakFirst made. A cell is a line
         * and how many words beyond one a line stand ahead of it; it tells the least cost from there.
         */
        void breakEvenly() {
            int span = words - made + 1;
            if (span < 1 || made * span > CELLS_MAX) {
                return;
            }
            int most = span - 1;
            for (int j = made - 1; j >= 0; j--) {
                // no way has more words ahead of a line than that which puts as many as fit
                most -= counts[j] - 1;
                for (int s = 0; s <= most; s++) {
                    weigh(j, s, span);
                }
            }
            int s = 0;
            for (int j = 0; j < made && s < span; j++) {
                counts[j] = takes[j * span + s];
                s += counts[j] - 1;
            }
        }

        private void weigh(int j, int s, int span) {
            int cell = j * span + s;
            boolean last = j == made - 1;
            int used = -1;
            costs[cell] = NO_WAY;
            takes[cell] = 1;
            for (int c = 1; s + c <= span; c++) {
                used += 1 + widths[first + j + s + c - 1];
                int slack = rooms[j] - used;
                if (slack < 0 && c > 1) {
                    break;
                }
                int own = slack < 0 ? OVER_COST : last ? 0 : slack * slack;
                int rest = last ? (s + c == span ? 0 : NO_WAY) : costs[cell + span + c - 1];
                // of like ones the one with more words stays
                if (rest < NO_WAY && own + rest <= costs[cell]) {
                    costs[cell] = own + rest;
                    takes[cell] = c;
                }
            }
        }
    }

    /** How all lines lie. */
    private static final class Layout {
        private final Pages pages;
        private final Drawing drawing;
        private final Breaker breaker;
        private int lines;
        private final int[] begins = new int[PARS_MAX];
        private final int[] ends = new int[PARS_MAX];
        private final int[] reaches = new int[PARS_MAX * BANDS_MAX];
        private final int[] owners = new int[LINES_MAX];
        private final int[] firstWords = new int[LINES_MAX];
        private final int[] wordCounts = new int[LINES_MAX];
        private final int[] indents = new int[LINES_MAX];
        private final int[] rooms = new int[LINES_MAX];
        private final int[] useds = new int[LINES_MAX];
        private final boolean[] clashes = new boolean[LINES_MAX];

        Layout(Pages toldPages, Drawing toldDrawing, Breaker sharedBreaker) {
            pages = toldPages;
            drawing = toldDrawing;
            breaker = sharedBreaker;
        }

        void layAll() {
            lines = 0;
            breaker.measureWords(pages);
            for (int p = 0; p < pages.count; p++) {
                leaveEmpty(p);
                begins[p] = lines;
                drawReaches(p);
                layPar(p);
                ends[p] = lines;
            }
        }

        private void leaveEmpty(int p) {
            int policy = pages.settings[POLICY];
            if (policy != PUSH && !(policy == WRAP && pages.hasShape(p))) {
                return;
            }
            int begin = Math.min(lastReachedAhead(p) + 1, LINES_MAX);
            for (int l = lines; l < begin; l++) {
                owners[l] = NONE;
                clashes[l] = false;
            }
            lines = Math.max(lines, begin);
        }

        private int lastReachedAhead(int p) {
            int last = -1;
            for (int q = 0; q < p; q++) {
                for (int j = 0; j < BANDS_MAX; j++) {
                    if (reaches[q * BANDS_MAX + j] > 0) {
                        last = Math.max(last, begins[q] + j);
                    }
                }
            }
            return last;
        }

        private void drawReaches(int p) {
            drawing.draw(p);
            for (int j = 0; j < BANDS_MAX; j++) {
                reaches[p * BANDS_MAX + j] = drawing.reachAt(j);
            }
        }

        private void layPar(int p) {
            int first = pages.firstOf(p);
            int n = pages.sizes[p];
            for (int t = 0; t < n && lines + t < LINES_MAX; t++) {
                int l = lines + t;
                indents[l] = indentAt(p, l);
                rooms[l] = Math.max(0, pages.settings[MEASURE] - indents[l]);
                breaker.rooms[t] = rooms[l];
            }
            int made = breaker.breakFirst(first, n);
            if (pages.settings[MODE] == EVEN) {
                breaker.breakEvenly();
            }
            int i = 0;
            for (int t = 0; t < made && lines < LINES_MAX; t++) {
                addLine(p, i, breaker.counts[t], first + i);
                i += breaker.counts[t];
            }
        }

        private void addLine(int p, int i, int count, int from) {
            int used = count - 1;
            for (int w = from; w < from + count && w < WORDS_MAX; w++) {
                used += breaker.widths[w];
            }
            owners[lines] = p;
            firstWords[lines] = i;
            wordCounts[lines] = count;
            useds[lines] = used;
            clashes[lines] = pages.settings[POLICY] == TELL && reachAhead(p, lines) > 0;
            lines++;
        }

        private int indentAt(int p, int l) {
            if (pages.hasShape(p)) {
                int j = l - begins[p];
                return j >= 0 && j < BANDS_MAX ? reaches[p * BANDS_MAX + j] : 0;
            }
            return pages.settings[POLICY] == WRAP ? reachAhead(p, l) : 0;
        }

        /** The greatest reach at a line of letters of paragraphs ahead. */
        private int reachAhead(int p, int l) {
            int greatest = 0;
            for (int q = 0; q < p; q++) {
                int j = l - begins[q];
                if (j >= 0 && j < BANDS_MAX && reaches[q * BANDS_MAX + j] > greatest) {
                    greatest = reaches[q * BANDS_MAX + j];
                }
            }
            return greatest;
        }

        boolean isOver(int l) {
            return owners[l] >= 0 && useds[l] > rooms[l];
        }

        int emptyLines() {
            int count = 0;
            for (int l = 0; l < lines; l++) {
                if (owners[l] < 0) {
                    count++;
                }
            }
            return count;
        }

        int oversWithin(int from, int to) {
            int count = 0;
            for (int l = from; l < to && l < lines; l++) {
                if (isOver(l)) {
                    count++;
                }
            }
            return count;
        }

        int clashesWithin(int from, int to) {
            int count = 0;
            for (int l = from; l < to && l < lines; l++) {
                if (clashes[l]) {
                    count++;
                }
            }
            return count;
        }

        int firstClashWithin(int from, int to) {
            for (int l = from; l < to && l < lines; l++) {
                if (clashes[l]) {
                    return l;
                }
            }
            return NONE;
        }

        int slacksSquared(int from, int to) {
            int sum = 0;
            for (int l = from; l < to && l < lines; l++) {
                int slack = isOver(l) ? 0 : rooms[l] - useds[l];
                sum += slack * slack;
            }
            return sum;
        }

        int lineWith(int p, int i) {
            for (int l = begins[p]; l < ends[p]; l++) {
                if (i < firstWords[l] + wordCounts[l]) {
                    return l;
                }
            }
            return NONE;
        }

        int placeOf(int p, int i) {
            int l = lineWith(p, i);
            if (l < 0) {
                return NONE;
            }
            int at = indents[l];
            for (int w = firstWords[l]; w < i; w++) {
                at += widthOf(pages.wordOf(p, w)) + 1;
            }
            return at;
        }
    }
}
