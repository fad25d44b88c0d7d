import java.util.Random;

/** Long runs of calls, made by a seeded source, against the model. */
public final class ModelTest {
    private static final int NONE = Model.NONE;

    static int wrong = 0;
    static final Random R = new Random(20261118L);
    static StringBuilder told = new StringBuilder();
    static int calls = 0;

    static int r(int n) {
        return R.nextInt(n);
    }

    static void due(String call, int got, int want) {
        calls++;
        told.append(call).append(" -> ").append(want).append('\n');
        if (got != want) {
            wrong++;
            if (wrong < 4) System.out.println(told);
            System.out.println(call + " answered " + got + ", the model says " + want);
        }
    }

    static String blanks(boolean needed) {
        int n = (needed ? 1 : 0) + (r(9) == 0 ? r(3) : 0);
        return " ".repeat(n);
    }

    static String aWord(int kind) {
        String letters = kind == 0 ? "ijlt" : kind == 1 ? "mw" : kind == 2 ? "ab" : "abcdefghijklmnopqrstuvwxyz";
        int n = kind == 0 && r(2) == 0 ? 1 : 1 + r(r(3) == 0 ? 6 : 3);
        if (r(400) == 0) n = 7;
        StringBuilder s = new StringBuilder();
        for (int i = 0; i < n; i++) s.append(letters.charAt(r(letters.length())));
        return s.toString();
    }

    static String aSetting(int which) {
        int low = Model.BOUNDS[which][0], high = Model.BOUNDS[which][1];
        int v = r(4) == 0 ? low : r(4) == 0 ? high : low + r(high - low + 1);
        if (r(60) == 0) v = r(2) == 0 ? low - 1 : high + 1;
        if (which == 0 && r(3) == 0) v = 20 + r(15);
        return "set" + blanks(true) + Model.NAMES[which] + blanks(false) + Math.max(v, 0) + blanks(false) + ";" + blanks(false);
    }

    static String aShape(char sign) {
        int height = r(5) == 0 ? 1 + r(3) : 1 + r(60);
        StringBuilder s = new StringBuilder("shape" + blanks(true) + sign + blanks(false) + height);
        int depth = 0;
        int steps = 1 + r(r(3) == 0 ? 8 : 4);
        if (r(60) == 0) steps = 9;
        for (int i = 0; i < steps && depth < height + (r(40) == 0 ? 1 : 0); i++) {
            int extent = r(4) == 0 ? 0 : r(3) == 0 ? r(61) : r(height + 1);
            s.append(blanks(true)).append(depth).append(blanks(true)).append(Math.min(extent, 60));
            depth += 1 + r(r(2) == 0 ? 3 : Math.max(1, height / 3));
        }
        return s + blanks(false) + ";" + blanks(false);
    }

    /** Narrow rooms of many widths beside the letters, so that EVEN can choose which lines are over. */
    static String aNarrowText() {
        StringBuilder s = new StringBuilder("set measure " + (20 + r(6)) + ";set mode 1;set policy " + r(3) + ";shape a 20");
        for (int i = 0; i < 5; i++) s.append(" ").append(i * 4).append(" ").append(5 + r(12));
        s.append(";");
        for (int p = 0; p < 1 + r(4); p++) {
            s.append("par").append(r(3) == 0 ? "" : " a" + (2 + r(4))).append(":");
            for (int i = 0; i < 2 + r(11); i++) s.append(" ").append(aWord(3));
            s.append(";");
        }
        return s.toString();
    }

    static String aText() {
        if (r(6) == 0) return aNarrowText();
        StringBuilder s = new StringBuilder(blanks(false));
        int style = r(6);
        for (int which = 0; which < 6; which++) if (r(2) == 0) s.append(aSetting(which));
        if (r(30) == 0) s.append(aSetting(r(6)));
        int shapes = style == 0 ? r(8) : 1 + r(3);
        String signs = "abcdefgh";
        for (int g = 0; g < shapes; g++) s.append(aShape(signs.charAt(r(40) == 0 ? 0 : g)));
        int pars = style == 1 ? 1 : style == 2 ? 7 + r(3) : 1 + r(5);
        int kind = r(5);
        for (int p = 0; p < pars; p++) {
            s.append("par");
            if (r(3) != 0 && shapes > 0) {
                s.append(blanks(true)).append(signs.charAt(r(shapes))).append(blanks(false)).append(r(60) == 0 ? r(8) : 2 + r(4));
            }
            s.append(blanks(false)).append(":");
            int words = style == 1 ? 20 + r(65) : style == 2 ? 1 + r(4) : 1 + r(14);
            for (int i = 0; i < words; i++) s.append(blanks(i > 0)).append(style == 1 && words > 60 ? "ijlta".substring(i % 5, i % 5 + 1) : aWord(kind));
            s.append(blanks(false)).append(";").append(blanks(false));
        }
        if (r(3) == 0) {
            String odd = "abst:;0159 \n@{`/\0\177";
            int times = 1 + r(2);
            for (int n = 0; n < times && s.length() > 0; n++) {
                int at = r(s.length());
                int how = r(4);
                if (how == 0) s.deleteCharAt(at);
                else if (how == 1) s.insert(at, odd.charAt(r(odd.length())));
                else if (how == 2) s.setCharAt(at, odd.charAt(r(odd.length())));
                else s.setLength(at);
            }
        }
        return s.toString();
    }

    static int near(int n) {
        int k = r(40);
        if (k == 0) return -1;
        if (k == 1) return n;
        if (k == 2) return NONE;
        if (k == 3) return r(2) == 0 ? Integer.MIN_VALUE : Integer.MAX_VALUE;
        if (k == 4) return n + r(5);
        return n <= 0 ? r(3) : r(n);
    }

    static int words(Model m, int p) {
        return m.isPar(p) ? m.pars.get(p).words.size() : 3;
    }

    static void ask(DropCapitals x, Model m) {
        int pars = m.pars.size(), p = near(pars), i = near(words(m, p)), g = near(m.shapes.size());
        switch (r(14)) {
            case 0: { int w = near(16); due("rule(" + w + ")", x.rule(w), m.rule(w)); break; }
            case 1: { int w = near(4); due("shape(" + g + ", " + w + ")", x.shape(g, w), m.shape(g, w)); break; }
            case 2: { int s = near(8), w = near(2); due("step(" + g + ", " + s + ", " + w + ")", x.step(g, s, w), m.step(g, s, w)); break; }
            case 3: { int w = near(10); due("par(" + p + ", " + w + ")", x.par(p, w), m.par(p, w)); break; }
            case 4: { int w = near(5); due("word(" + p + ", " + i + ", " + w + ")", x.word(p, i, w), m.word(p, i, w)); break; }
            case 5: { int k = near(6); due("letter(" + p + ", " + i + ", " + k + ")", x.letter(p, i, k), m.letter(p, i, k)); break; }
            case 6: { int s = near(8), w = near(3); due("drawn(" + p + ", " + s + ", " + w + ")", x.drawn(p, s, w), m.drawn(p, s, w)); break; }
            case 7: { int j = near(10); due("reach(" + p + ", " + j + ")", x.reach(p, j), m.reach(p, j)); break; }
            case 8: case 9: { int l = near(m.lay().all), w = near(8); due("line(" + l + ", " + w + ")", x.line(l, w), m.line(l, w)); break; }
            case 10: { int l = near(m.lay().all), k = near(20); due("sign(" + l + ", " + k + ")", x.sign(l, k), m.sign(l, k)); break; }
            case 11: due("best(" + p + ")", x.best(p), m.best(p)); break;
            case 12: { int n = near(6); due("tried(" + p + ", " + n + ")", x.tried(p, n), m.tried(p, n)); break; }
            default: due("fault()", x.fault(), m.fault); break;
        }
    }

    static void change(DropCapitals x, Model m) {
        int pars = m.pars.size(), p = near(pars), i = near(words(m, p)), q = near(pars), k = r(6) == 0 ? NONE : near(words(m, q));
        switch (r(9)) {
            case 0: case 1: {
                int w = 8 + near(6);
                int which = w >= 8 && w <= 13 ? w - 8 : 0;
                int v = r(8) == 0 ? near(100) : Model.BOUNDS[which][0] + r(Model.BOUNDS[which][1] - Model.BOUNDS[which][0] + 1) + (r(20) == 0 ? 1 : 0);
                due("set(" + w + ", " + v + ")", x.set(w, v), m.set(w, v));
                break;
            }
            case 2: {
                int g = r(5) == 0 ? NONE : near(m.shapes.size()), n = g == NONE && r(4) != 0 ? 0 : near(6);
                due("drop(" + p + ", " + g + ", " + n + ")", x.drop(p, g, n), m.drop(p, g, n));
                break;
            }
            case 3: if (r(3) == 0) due("fit()", x.fit(), m.fit()); break;
            case 4: due("cut(" + p + ", " + i + ")", x.cut(p, i), m.cut(p, i)); break;
            case 5: if (r(2) == 0) due("join(" + p + ")", x.join(p), m.join(p)); break;
            case 6: due("move(" + p + ", " + i + ", " + q + ", " + k + ")", x.move(p, i, q, k), m.move(p, i, q, k)); break;
            case 7: { int n = near(2); due("keep(" + n + ")", x.keep(n), m.keep(n)); break; }
            default: { int n = near(2); due("back(" + n + ")", x.back(n), m.back(n)); break; }
        }
    }

    static void askAll(DropCapitals x, Model m) {
        for (int w = -1; w <= 16; w++) due("rule(" + w + ")", x.rule(w), m.rule(w));
        int all = m.lay().all;
        for (int l = -1; l <= all; l++) {
            for (int w = 0; w < 8; w++) due("line(" + l + ", " + w + ")", x.line(l, w), m.line(l, w));
        }
        for (int p = 0; p < m.pars.size(); p++) {
            for (int w = 0; w < 10; w++) due("par(" + p + ", " + w + ")", x.par(p, w), m.par(p, w));
            for (int j = 0; j < 11; j++) due("reach(" + p + ", " + j + ")", x.reach(p, j), m.reach(p, j));
            for (int i = 0; i < words(m, p); i++) {
                for (int w = 0; w < 5; w++) due("word(" + p + ", " + i + ", " + w + ")", x.word(p, i, w), m.word(p, i, w));
            }
        }
    }

    static void tell(DropCapitals x, Model m) {
        String text = aText();
        while (text.length() > 400 && r(12) != 0) text = aText();
        for (char c : text.toCharArray()) due("feed(" + (int) c + ")", x.feed(c), m.feed(c));
        if (r(10) == 0) {
            int n = near(text.length());
            due("end(" + n + ")", x.end(n), m.end(n));
        }
        due("text() of \"" + text + "\"", x.text(), m.text());
        due("fault()", x.fault(), m.fault);
        faults[m.fault]++;
    }

    static final int[] faults = new int[6];

    public static void main(String[] args) {
        int runs = args.length > 0 ? Integer.parseInt(args[0]) : 400;
        if (args.length > 1) R.setSeed(Long.parseLong(args[1]));
        for (int run = 0; run < runs && wrong == 0; run++) {
            told = new StringBuilder("run " + run + "\n");
            DropCapitals x = new DropCapitals();
            Model m = new Model();
            int texts = 1 + r(3);
            for (int t = 0; t < texts; t++) {
                tell(x, m);
                for (int n = 0; n < 60; n++) {
                    if (r(3) == 0) change(x, m);
                    else ask(x, m);
                }
                if (r(4) == 0) askAll(x, m);
            }
        }
        for (int kind = 0; kind < 6; kind++) {
            if (runs >= 400 && faults[kind] == 0) {
                wrong++;
                System.out.println("no text of fault " + kind + " was tried");
            }
        }
        System.out.println(wrong == 0 ? calls + " answers are as the model's" : wrong + " answers are not as the model's");
        if (wrong != 0) System.exit(1);
    }
}
