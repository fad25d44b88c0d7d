import java.util.ArrayList;
import java.util.HashSet;
import java.util.List;
import java.util.Set;
import java.util.TreeMap;

/**
 * A model that follows the document's words as plainly as can be: it holds lists, lays out anew at each
 * question and tries every way of EVEN.
 */
public final class Model {
    static final int BAD = -1, STATE = -2, FULL = -3, NONE = -4;

    static final class Shape {
        int sign, height;
        List<int[]> steps = new ArrayList<>();
    }

    static final class Par {
        List<String> words = new ArrayList<>();
        int shape = NONE, drop = 0;

        Par copy() {
            Par c = new Par();
            c.words.addAll(words);
            c.shape = shape;
            c.drop = drop;
            return c;
        }
    }

    static final class Line {
        int par, first, count, indent, room, used;
        boolean clash;

        boolean over() {
            return used > room;
        }

        int slack() {
            return over() ? 0 : room - used;
        }
    }

    static final class Image {
        List<Par> pars = new ArrayList<>();
        TreeMap<Integer, Integer> settings = new TreeMap<>();
    }

    static final class Fault extends RuntimeException {
        private static final long serialVersionUID = 1L;
        final int kind, place;

        Fault(int kind, int place) {
            this.kind = kind;
            this.place = place;
        }
    }

    static final class Token {
        final String text;
        final int place;

        Token(String text, int place) {
            this.text = text;
            this.place = place;
        }

        boolean name() {
            return text.matches("[a-z]+");
        }

        boolean number() {
            return text.matches("[0-9]{1,2}");
        }
    }

    static final String[] NAMES = {"measure", "leading", "cap", "gap", "mode", "policy"};
    static final int[][] BOUNDS = {{20, 99}, {4, 20}, {2, 20}, {0, 9}, {0, 1}, {0, 2}};

    String tape = "";
    int fault = 0;
    List<Shape> shapes = new ArrayList<>();
    List<Par> pars = new ArrayList<>();
    TreeMap<Integer, Integer> settings = new TreeMap<>();
    Image[] images = new Image[2];
    // what reading goes on with
    private List<Token> tokens;
    private int at;

    Model() {
        int[] first = {40, 8, 5, 1, 0, 0};
        for (int i = 0; i < 6; i++) {
            settings.put(8 + i, first[i]);
        }
    }

    int feed(int c) {
        if (c < 0 || c > 127) return BAD;
        if (tape.length() == 400) return FULL;
        tape += (char) c;
        return tape.length();
    }

    int end(int n) {
        if (n < 0 || n > tape.length()) return BAD;
        int had = tape.length();
        tape = tape.substring(0, n);
        return had;
    }

    int text() {
        List<Shape> newShapes = new ArrayList<>();
        List<Par> newPars = new ArrayList<>();
        TreeMap<Integer, Integer> newSettings = new TreeMap<>(settings);
        String told = tape;
        tape = "";
        try {
            int lines = read(told, newShapes, newPars, newSettings);
            shapes = newShapes;
            pars = newPars;
            settings = newSettings;
            images = new Image[2];
            fault = 0;
            return lines;
        } catch (Fault f) {
            fault = f.kind;
            return -10 - f.place;
        }
    }

    private static List<Token> tokensOf(String s) {
        List<Token> all = new ArrayList<>();
        java.util.regex.Matcher m =
            java.util.regex.Pattern.compile("[a-z]+|[0-9]+|[^ ]", java.util.regex.Pattern.DOTALL).matcher(s);
        while (m.find()) all.add(new Token(m.group(), m.start()));
        all.add(new Token("", s.length()));
        return all;
    }

    private Token take() {
        Token t = tokens.get(at++);
        boolean fine = t.text.isEmpty() || t.name() || t.number() || t.text.equals(":") || t.text.equals(";");
        if (!fine) throw new Fault(1, t.place);
        return t;
    }

    private int number(int low, int high) {
        Token t = take();
        if (!t.number()) throw new Fault(2, t.place);
        int v = Integer.parseInt(t.text);
        if (v < low || v > high) throw new Fault(3, t.place);
        return v;
    }

    private int read(String s, List<Shape> ss, List<Par> ps, TreeMap<Integer, Integer> set) {
        tokens = tokensOf(s);
        at = 0;
        Set<String> toldSettings = new HashSet<>();
        int words = 0;
        int lines = 0;
        while (true) {
            Token t = take();
            if (t.text.isEmpty()) return lines;
            if (t.text.equals("set")) {
                Token n = take();
                int which = java.util.Arrays.asList(NAMES).indexOf(n.text);
                if (which < 0) throw new Fault(2, n.place);
                if (!toldSettings.add(n.text)) throw new Fault(4, n.place);
                set.put(8 + which, number(BOUNDS[which][0], BOUNDS[which][1]));
                Token e = take();
                if (!e.text.equals(";")) throw new Fault(2, e.place);
            } else if (t.text.equals("shape")) {
                if (ss.size() == 6) throw new Fault(5, t.place);
                readShape(ss);
            } else if (t.text.equals("par")) {
                if (ps.size() == 8) throw new Fault(5, t.place);
                words = readPar(ss, ps, words);
            } else {
                throw new Fault(2, t.place);
            }
            lines++;
        }
    }

    private void readShape(List<Shape> ss) {
        Token n = take();
        if (!n.name() || n.text.length() > 1) throw new Fault(2, n.place);
        Shape g = new Shape();
        g.sign = n.text.charAt(0) - 'a' + 1;
        for (Shape o : ss) if (o.sign == g.sign) throw new Fault(4, n.place);
        g.height = number(1, 60);
        int last = 0;
        while (true) {
            Token d = take();
            if (!g.steps.isEmpty() && d.text.equals(";")) break;
            if (!d.number() || g.steps.size() == 8) throw new Fault(2, d.place);
            int depth = Integer.parseInt(d.text);
            if (g.steps.isEmpty() ? depth != 0 : depth <= last || depth >= g.height) throw new Fault(3, d.place);
            last = depth;
            g.steps.add(new int[] {depth, number(0, 60)});
        }
        ss.add(g);
    }

    private int readPar(List<Shape> ss, List<Par> ps, int wordsAhead) {
        int words = wordsAhead;
        Par p = new Par();
        Token n = take();
        if (n.name()) {
            for (int g = 0; g < ss.size(); g++) {
                if (n.text.length() == 1 && ss.get(g).sign == n.text.charAt(0) - 'a' + 1) p.shape = g;
            }
            if (p.shape < 0) throw new Fault(2, n.place);
            p.drop = number(2, 5);
            n = take();
        }
        if (!n.text.equals(":")) throw new Fault(2, n.place);
        while (true) {
            Token w = take();
            if (w.text.equals(";") && !p.words.isEmpty()) break;
            if (!w.name()) throw new Fault(2, w.place);
            if (w.text.length() > 6) throw new Fault(3, w.place);
            if (words == 80) throw new Fault(5, w.place);
            words++;
            p.words.add(w.text);
        }
        ps.add(p);
        return words;
    }

    // -- how it lies

    int h(Par p) {
        return p.shape < 0 ? 0 : (p.drop - 1) * settings.get(9) + settings.get(10);
    }

    int[] drawnStep(Par p, int i) {
        Shape g = shapes.get(p.shape);
        int h = h(p);
        int begin = Math.floorDiv(g.steps.get(i)[0] * h, g.height);
        int stop = i + 1 == g.steps.size() ? h : Math.floorDiv(g.steps.get(i + 1)[0] * h, g.height);
        return new int[] {begin, stop, -Math.floorDiv(-g.steps.get(i)[1] * h, g.height)};
    }

    int reachOf(Par p, long j) {
        int most = -1;
        for (int i = 0; i < shapes.get(p.shape).steps.size(); i++) {
            int[] d = drawnStep(p, i);
            boolean some = false;
            for (int y = d[0]; y < d[1]; y++) {
                if (Math.floorDiv((long) y, (long) settings.get(9)) == j) some = true;
            }
            if (some) most = Math.max(most, d[2]);
        }
        return most < 0 ? 0 : most + settings.get(11);
    }

    static int width(String w) {
        int sum = 0;
        for (char c : w.toCharArray()) sum += "ijlt".indexOf(c) >= 0 ? 1 : "mw".indexOf(c) >= 0 ? 3 : 2;
        return sum;
    }

    static int used(Par p, int first, int count) {
        int sum = count - 1;
        for (int i = first; i < first + count; i++) sum += width(p.words.get(i));
        return sum;
    }

    final class Lay {
        TreeMap<Integer, Line> lines = new TreeMap<>();
        int[] begins = new int[8], counts = new int[8];
        int all = 0;

        int clashes() {
            int n = 0;
            for (Line l : lines.values()) if (l.clash) n++;
            return n;
        }

        int overs() {
            int n = 0;
            for (Line l : lines.values()) if (l.over()) n++;
            return n;
        }
    }

    int reachAhead(Lay lay, int p, int l) {
        int most = 0;
        for (int q = 0; q < p; q++) {
            if (pars.get(q).shape >= 0) most = Math.max(most, reachOf(pars.get(q), l - lay.begins[q]));
        }
        return most;
    }

    Lay lay() {
        Lay lay = new Lay();
        int policy = settings.get(13);
        for (int p = 0; p < pars.size(); p++) {
            Par par = pars.get(p);
            int begin = lay.all;
            if (policy == 1 || policy == 2 && par.shape >= 0) {
                for (int l = begin; l < begin + 40; l++) {
                    if (reachAhead(lay, p, l) > 0) begin = Math.max(begin, l + 1);
                }
            }
            lay.begins[p] = begin;
            int n = par.words.size();
            int[] indents = new int[n];
            for (int t = 0; t < n; t++) {
                indents[t] = par.shape >= 0 ? reachOf(par, t) : policy == 2 ? reachAhead(lay, p, begin + t) : 0;
            }
            List<Integer> way = first(par, indents);
            if (settings.get(12) == 1) way = even(par, indents, way.size());
            int i = 0;
            for (int t = 0; t < way.size(); t++) {
                Line l = line(par, indents, t, i, way.get(t));
                l.par = p;
                l.clash = policy == 0 && reachAhead(lay, p, begin + t) > 0;
                lay.lines.put(begin + t, l);
                i += way.get(t);
            }
            lay.counts[p] = way.size();
            lay.all = begin + way.size();
        }
        return lay;
    }

    Line line(Par par, int[] indents, int t, int first, int count) {
        Line l = new Line();
        l.first = first;
        l.count = count;
        l.indent = indents[t];
        l.room = Math.max(0, settings.get(8) - indents[t]);
        l.used = used(par, first, count);
        return l;
    }

    List<Integer> first(Par par, int[] indents) {
        List<Integer> way = new ArrayList<>();
        int i = 0;
        while (i < par.words.size()) {
            int c = 1;
            while (i + c < par.words.size() && !line(par, indents, way.size(), i, c + 1).over()) c++;
            way.add(c);
            i += c;
        }
        return way;
    }

    private long[] bestMarks;
    private List<Integer> bestWay;
    private Object[] memo;

    List<Integer> even(Par par, int[] indents, int made) {
        if (par.words.size() > 12) {
            memo = new Object[81 * 81];
            return ways(par, indents, made, 0, 0).way;
        }
        bestWay = null;
        tryAll(par, indents, made, new ArrayList<>(), 0);
        return bestWay;
    }

    /** Every way there is, and the best of them by the document's order. */
    private void tryAll(Par par, int[] indents, int made, List<Integer> way, int i) {
        if (way.size() == made) {
            if (i == par.words.size()) judge(par, indents, way);
            return;
        }
        for (int c = 1; i + c <= par.words.size(); c++) {
            if (c > 1 && line(par, indents, way.size(), i, c).over()) break;
            way.add(c);
            tryAll(par, indents, made, way, i + c);
            way.remove(way.size() - 1);
        }
    }

    private void judge(Par par, int[] indents, List<Integer> way) {
        long over = 0, slack = 0;
        int i = 0;
        for (int t = 0; t < way.size(); t++) {
            Line l = line(par, indents, t, i, way.get(t));
            if (l.over()) over++;
            if (t < way.size() - 1) slack += (long) l.slack() * l.slack();
            i += way.get(t);
        }
        if (bestWay == null || isBetter(over, slack, way, bestMarks[0], bestMarks[1], bestWay)) {
            bestWay = new ArrayList<>(way);
            bestMarks = new long[] {over, slack};
        }
    }

    private static boolean isBetter(long o1, long s1, List<Integer> w1, long o2, long s2, List<Integer> w2) {
        if (o1 != o2) return o1 < o2;
        if (s1 != s2) return s1 < s2;
        for (int t = 0; t < w1.size(); t++) {
            if (!w1.get(t).equals(w2.get(t))) return w1.get(t) > w2.get(t);
        }
        return false;
    }

    static final class Way {
        long over, slack;
        List<Integer> way = new ArrayList<>();
    }

    /** The same for long paragraphs, each rest looked at once. */
    private Way ways(Par par, int[] indents, int made, int t, int i) {
        if (t == made) return i == par.words.size() ? new Way() : null;
        if (memo[t * 81 + i] != null) return memo[t * 81 + i] instanceof Way ? (Way) memo[t * 81 + i] : null;
        Way found = null;
        for (int c = 1; i + c <= par.words.size(); c++) {
            Line l = line(par, indents, t, i, c);
            if (c > 1 && l.over()) break;
            Way rest = ways(par, indents, made, t + 1, i + c);
            if (rest == null) continue;
            Way w = new Way();
            w.over = rest.over + (l.over() ? 1 : 0);
            w.slack = rest.slack + (t == made - 1 ? 0 : (long) l.slack() * l.slack());
            w.way.add(c);
            w.way.addAll(rest.way);
            if (found == null || isBetter(w.over, w.slack, w.way, found.over, found.slack, found.way)) found = w;
        }
        memo[t * 81 + i] = found == null ? "none" : found;
        return found;
    }

    // -- questions

    boolean isPar(int p) {
        return p >= 0 && p < pars.size();
    }

    int rule(int what) {
        if (what >= 8 && what <= 13) return settings.get(what);
        List<String> all = new ArrayList<>();
        for (Par p : pars) all.addAll(p.words);
        switch (what) {
            case 0: return shapes.size();
            case 1: return pars.size();
            case 2: return all.size();
            case 3: return new HashSet<>(all).size();
            case 4: return lay().all;
            case 5: { Lay l = lay(); return l.all - l.lines.size(); }
            case 6: return lay().clashes();
            case 7: return lay().overs();
            case 14: return tape.length();
            case 15: return (images[0] != null ? 1 : 0) + (images[1] != null ? 1 : 0);
            default: return BAD;
        }
    }

    int shape(int g, int what) {
        if (g < 0 || g >= shapes.size() || what < 0 || what > 3) return BAD;
        Shape s = shapes.get(g);
        if (what == 0) return s.sign;
        if (what == 1) return s.height;
        if (what == 2) return s.steps.size();
        int most = 0;
        for (int[] t : s.steps) most = Math.max(most, t[1]);
        return most;
    }

    int step(int g, int i, int what) {
        if (g < 0 || g >= shapes.size() || i < 0 || what < 0 || what > 1) return BAD;
        if (i >= shapes.get(g).steps.size()) return NONE;
        return shapes.get(g).steps.get(i)[what];
    }

    int par(int p, int what) {
        if (!isPar(p) || what < 0 || what > 9) return BAD;
        Par par = pars.get(p);
        if (what == 0) return par.words.size();
        if (what == 1) return par.shape;
        if (what == 2) return par.drop;
        if (what == 3) return h(par);
        Lay lay = lay();
        int from = lay.begins[p], n = lay.counts[p];
        if (what == 4) return from;
        if (what == 5) return n;
        int clashes = 0, firstClash = NONE, overs = 0, slacks = 0;
        for (int l = from; l < from + n; l++) {
            Line x = lay.lines.get(l);
            if (x.clash) {
                if (clashes == 0) firstClash = l;
                clashes++;
            }
            if (x.over()) overs++;
            if (l < from + n - 1) slacks += x.slack() * x.slack();
        }
        return what == 6 ? clashes : what == 7 ? firstClash : what == 8 ? overs : slacks;
    }

    int word(int p, int i, int what) {
        if (!isPar(p) || i < 0 || what < 0 || what > 4) return BAD;
        if (i >= pars.get(p).words.size()) return NONE;
        String w = pars.get(p).words.get(i);
        if (what == 0) return w.length();
        if (what == 1) return width(w);
        int like = 0;
        for (Par q : pars) for (String v : q.words) if (v.equals(w)) like++;
        if (what == 2) return like;
        Lay lay = lay();
        for (int l : lay.lines.keySet()) {
            Line x = lay.lines.get(l);
            if (x.par == p && i >= x.first && i < x.first + x.count) {
                if (what == 3) return l;
                return x.indent + (i == x.first ? 0 : used(pars.get(p), x.first, i - x.first) + 1);
            }
        }
        return -99;
    }

    int letter(int p, int i, int k) {
        if (!isPar(p) || i < 0 || k < 0) return BAD;
        if (i >= pars.get(p).words.size()) return NONE;
        String w = pars.get(p).words.get(i);
        return k >= w.length() ? NONE : w.charAt(k) - 'a' + 1;
    }

    int drawn(int p, int i, int what) {
        if (!isPar(p) || i < 0 || what < 0 || what > 2) return BAD;
        Par par = pars.get(p);
        if (par.shape < 0 || i >= shapes.get(par.shape).steps.size()) return NONE;
        return drawnStep(par, i)[what];
    }

    int reach(int p, int j) {
        if (!isPar(p) || j < 0) return BAD;
        return pars.get(p).shape < 0 ? NONE : reachOf(pars.get(p), j);
    }

    int line(int l, int what) {
        Lay lay = lay();
        if (l < 0 || l >= lay.all || what < 0 || what > 7) return BAD;
        Line x = lay.lines.get(l);
        if (x == null) return NONE;
        int[] all = {x.par, x.first, x.count, x.indent, x.room, x.used, x.over() ? 1 : 0, x.clash ? 1 : 0};
        return all[what];
    }

    int sign(int l, int k) {
        Lay lay = lay();
        if (l < 0 || l >= lay.all || k < 0) return BAD;
        Line x = lay.lines.get(l);
        if (x == null) return NONE;
        String s = String.join(" ", pars.get(x.par).words.subList(x.first, x.first + x.count));
        if (k >= s.length()) return NONE;
        return s.charAt(k) == ' ' ? 0 : s.charAt(k) - 'a' + 1;
    }

    int best(int p) {
        if (!isPar(p)) return BAD;
        Par par = pars.get(p);
        if (par.shape < 0) return NONE;
        int had = par.drop;
        int found = 0;
        long least = Long.MAX_VALUE;
        for (int n = 2; n <= 5; n++) {
            par.drop = n;
            Lay lay = lay();
            long mark = ((lay.all * 1000L + lay.clashes()) * 1000L + lay.overs()) * 10 + (5 - n);
            if (mark < least) {
                least = mark;
                found = n;
            }
        }
        par.drop = had;
        return found;
    }

    int tried(int p, int n) {
        if (!isPar(p) || n < 2 || n > 5) return BAD;
        Par par = pars.get(p);
        if (par.shape < 0) return NONE;
        int had = par.drop;
        par.drop = n;
        int lines = lay().all;
        par.drop = had;
        return lines;
    }

    // -- by hand

    int set(int what, int v) {
        if (what < 8 || what > 13 || v < BOUNDS[what - 8][0] || v > BOUNDS[what - 8][1]) return BAD;
        return settings.put(what, v);
    }

    int drop(int p, int g, int n) {
        if (!isPar(p)) return BAD;
        boolean none = g == NONE && n == 0;
        boolean some = g >= 0 && g < shapes.size() && n >= 2 && n <= 5;
        if (!none && !some) return BAD;
        int had = pars.get(p).drop;
        pars.get(p).shape = g;
        pars.get(p).drop = n;
        return had;
    }

    int fit() {
        int changed = 0;
        for (int p = 0; p < pars.size(); p++) {
            int b = best(p);
            if (b > 0 && b != pars.get(p).drop) {
                changed++;
                pars.get(p).drop = b;
            }
        }
        return changed;
    }

    int cut(int p, int i) {
        if (!isPar(p) || i <= 0 || i >= pars.get(p).words.size()) return BAD;
        if (pars.size() == 8) return FULL;
        Par rest = new Par();
        List<String> tail = pars.get(p).words.subList(i, pars.get(p).words.size());
        rest.words.addAll(tail);
        tail.clear();
        pars.add(p + 1, rest);
        return pars.size();
    }

    int join(int p) {
        if (!isPar(p)) return BAD;
        if (p == pars.size() - 1) return NONE;
        pars.get(p).words.addAll(pars.remove(p + 1).words);
        return pars.get(p).words.size();
    }

    int move(int p, int i, int q, int k) {
        if (!isPar(p) || i < 0 || i >= pars.get(p).words.size() || !isPar(q)) return BAD;
        if (k != NONE && (k < 0 || k >= pars.get(q).words.size())) return BAD;
        if (pars.get(p).words.size() == 1 || p == q && i == k) return STATE;
        String w = pars.get(p).words.get(i);
        pars.get(p).words.set(i, "!");
        pars.get(q).words.add(k == NONE ? 0 : k + 1, w);
        pars.get(p).words.remove("!");
        return pars.get(q).words.size();
    }

    int keep(int k) {
        if (k != 0 && k != 1) return BAD;
        int was = images[k] == null ? 0 : 1;
        images[k] = new Image();
        for (Par p : pars) images[k].pars.add(p.copy());
        images[k].settings.putAll(settings);
        return was;
    }

    int back(int k) {
        if (k != 0 && k != 1) return BAD;
        if (images[k] == null) return STATE;
        pars = new ArrayList<>();
        for (Par p : images[k].pars) pars.add(p.copy());
        settings = new TreeMap<>(images[k].settings);
        return pars.size();
    }
}
