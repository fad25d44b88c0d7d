import java.util.ArrayList;
import java.util.HashSet;
import java.util.List;
import java.util.Random;
import java.util.Set;
import java.util.TreeMap;

/**
 * Long runs of calls, made by a seeded source, against a model that follows the document's words as
 * plainly as can be: it holds lists, lays out anew at each question and tries every way of EVEN.
 */
public final class ModelTest {
    static final int BAD = -1, STATE = -2, FULL = -3, NONE = -4;

    // ---- the model

    static final class Shape {
        int sign, height;
        List<int[]> steps = new ArrayList<>();
    }

    static final class Par {
        List<String> words = new ArrayList<>();
        int shape = NONE, drop = 0;

        Par copy() {
            Par c = new Par();
            c.words.addAll(words);
            c.shape = shape;
            c.drop = drop;
            return c;
        }
    }

    static final class Line {
        int par, first, count, indent, room, used;
        boolean clash;

        boolean over() {
            return used > room;
        }

        int slack() {
            return over() ? 0 : room - used;
        }
    }

    static final class Image {
        List<Par> pars = new ArrayList<>();
        TreeMap<Integer, Integer> settings = new TreeMap<>();
    }

    static final class Fault extends RuntimeException {
        private static final long serialVersionUID = 1L;
        final int kind, place;

        Fault(int kind, int place) {
            this.kind = kind;
            this.place = place;
        }
    }

    static final class Token {
        final String text;
        final int place;

        Token(String text, int place) {
            this.text = text;
            this.place = place;
        }

        boolean name() {
            return text.matches("[a-z]+");
        }

        boolean number() {
            return text.matches("[0-9]{1,2}");
        }
    }

    static final String[] NAMES = {"measure", "leading", "cap", "gap", "mode", "policy"};
    static final int[][] BOUNDS = {{20, 99}, {4, 20}, {2, 20}, {0, 9}, {0, 1}, {0, 2}};

    static final class Model {
        String tape = "";
        int fault = 0;
        List<Shape> shapes = new ArrayList<>();
        List<Par> pars = new ArrayList<>();
        TreeMap<Integer, Integer> settings = new TreeMap<>();
        Image[] images = new Image[2];
        // what reading goes on with
        private List<Token> tokens;
        private int at;

        Model() {
            int[] first = {40, 8, 5, 1, 0, 0};
            for (int i = 0; i < 6; i++) {
                settings.put(8 + i, first[i]);
            }
        }

        int feed(int c) {
            if (c < 0 || c > 127) return BAD;
            if (tape.length() == 400) return FULL;
            tape += (char) c;
            return tape.length();
        }

        int end(int n) {
            if (n < 0 || n > tape.length()) return BAD;
            int had = tape.length();
            tape = tape.substring(0, n);
            return had;
        }

        int text() {
            List<Shape> newShapes = new ArrayList<>();
            List<Par> newPars = new ArrayList<>();
            TreeMap<Integer, Integer> newSettings = new TreeMap<>(settings);
            String told = tape;
            tape = "";
            try {
                int lines = read(told, newShapes, newPars, newSettings);
                shapes = newShapes;
                pars = newPars;
                settings = newSettings;
                images = new Image[2];
                fault = 0;
                return lines;
            } catch (Fault f) {
                fault = f.kind;
                return -10 - f.place;
            }
        }

        private static List<Token> tokensOf(String s) {
            List<Token> all = new ArrayList<>();
            java.util.regex.Matcher m =
                java.util.regex.Pattern.compile("[a-z]+|[0-9]+|[^ ]", java.util.regex.Pattern.DOTALL).matcher(s);
            while (m.find()) all.add(new Token(m.group(), m.start()));
            all.add(new Token("", s.length()));
            return all;
        }

        private Token take() {
            Token t = tokens.get(at++);
            boolean fine = t.text.isEmpty() || t.name() || t.number() || t.text.equals(":") || t.text.equals(";");
            if (!fine) throw new Fault(1, t.place);
            return t;
        }

        private int number(int low, int high) {
            Token t = take();
            if (!t.number()) throw new Fault(2, t.place);
            int v = Integer.parseInt(t.text);
            if (v < low || v > high) throw new Fault(3, t.place);
            return v;
        }

        private int read(String s, List<Shape> ss, List<Par> ps, TreeMap<Integer, Integer> set) {
            tokens = tokensOf(s);
            at = 0;
            Set<String> toldSettings = new HashSet<>();
            int words = 0;
            int lines = 0;
            while (true) {
                Token t = take();
                if (t.text.isEmpty()) return lines;
                if (t.text.equals("set")) {
                    Token n = take();
                    int which = java.util.Arrays.asList(NAMES).indexOf(n.text);
                    if (which < 0) throw new Fault(2, n.place);
                    if (!toldSettings.add(n.text)) throw new Fault(4, n.place);
                    set.put(8 + which, number(BOUNDS[which][0], BOUNDS[which][1]));
                    Token e = take();
                    if (!e.text.equals(";")) throw new Fault(2, e.place);
                } else if (t.text.equals("shape")) {
                    if (ss.size() == 6) throw new Fault(5, t.place);
                    readShape(ss);
                } else if (t.text.equals("par")) {
                    if (ps.size() == 8) throw new Fault(5, t.place);
                    words = readPar(ss, ps, words);
                } else {
                    throw new Fault(2, t.place);
                }
                lines++;
            }
        }

        private void readShape(List<Shape> ss) {
            Token n = take();
            if (!n.name() || n.text.length() > 1) throw new Fault(2, n.place);
            Shape g = new Shape();
            g.sign = n.text.charAt(0) - 'a' + 1;
            for (Shape o : ss) if (o.sign == g.sign) throw new Fault(4, n.place);
            g.height = number(1, 60);
            int last = 0;
            while (true) {
                Token d = take();
                if (!g.steps.isEmpty() && d.text.equals(";")) break;
                if (!d.number() || g.steps.size() == 8) throw new Fault(2, d.place);
                int depth = Integer.parseInt(d.text);
                if (g.steps.isEmpty() ? depth != 0 : depth <= last || depth >= g.height) throw new Fault(3, d.place);
                last = depth;
                g.steps.add(new int[] {depth, number(0, 60)});
            }
            ss.add(g);
        }

        private int readPar(List<Shape> ss, List<Par> ps, int wordsAhead) {
            int words = wordsAhead;
            Par p = new Par();
            Token n = take();
            if (n.name()) {
                for (int g = 0; g < ss.size(); g++) {
                    if (n.text.length() == 1 && ss.get(g).sign == n.text.charAt(0) - 'a' + 1) p.shape = g;
                }
                if (p.shape < 0) throw new Fault(2, n.place);
                p.drop = number(2, 5);
                n = take();
            }
            if (!n.text.equals(":")) throw new Fault(2, n.place);
            while (true) {
                Token w = take();
                if (w.text.equals(";") && !p.words.isEmpty()) break;
                if (!w.name()) throw new Fault(2, w.place);
                if (w.text.length() > 6) throw new Fault(3, w.place);
                if (words == 80) throw new Fault(5, w.place);
                words++;
                p.words.add(w.text);
            }
            ps.add(p);
            return words;
        }

        // -- how it lies

        int h(Par p) {
            return p.shape < 0 ? 0 : (p.drop - 1) * settings.get(9) + settings.get(10);
        }

        int[] drawnStep(Par p, int i) {
            Shape g = shapes.get(p.shape);
            int h = h(p);
            int begin = Math.floorDiv(g.steps.get(i)[0] * h, g.height);
            int stop = i + 1 == g.steps.size() ? h : Math.floorDiv(g.steps.get(i + 1)[0] * h, g.height);
            return new int[] {begin, stop, -Math.floorDiv(-g.steps.get(i)[1] * h, g.height)};
        }

        int reachOf(Par p, long j) {
            int most = -1;
            for (int i = 0; i < shapes.get(p.shape).steps.size(); i++) {
                int[] d = drawnStep(p, i);
                boolean some = false;
                for (int y = d[0]; y < d[1]; y++) {
                    if (Math.floorDiv((long) y, (long) settings.get(9)) == j) some = true;
                }
                if (some) most = Math.max(most, d[2]);
            }
            return most < 0 ? 0 : most + settings.get(11);
        }

        static int width(String w) {
            int sum = 0;
            for (char c : w.toCharArray()) sum += "ijlt".indexOf(c) >= 0 ? 1 : "mw".indexOf(c) >= 0 ? 3 : 2;
            return sum;
        }

        static int used(Par p, int first, int count) {
            int sum = count - 1;
            for (int i = first; i < first + count; i++) sum += width(p.words.get(i));
            return sum;
        }

        final class Lay {
            TreeMap<Integer, Line> lines = new TreeMap<>();
            int[] begins = new int[8], counts = new int[8];
            int all = 0;

            int clashes() {
                int n = 0;
                for (Line l : lines.values()) if (l.clash) n++;
                return n;
            }

            int overs() {
                int n = 0;
                for (Line l : lines.values()) if (l.over()) n++;
                return n;
            }
        }

        int reachAhead(Lay lay, int p, int l) {
            int most = 0;
            for (int q = 0; q < p; q++) {
                if (pars.get(q).shape >= 0) most = Math.max(most, reachOf(pars.get(q), l - lay.begins[q]));
            }
            return most;
        }

        Lay lay() {
            Lay lay = new Lay();
            int policy = settings.get(13);
            for (int p = 0; p < pars.size(); p++) {
                Par par = pars.get(p);
                int begin = lay.all;
                if (policy == 1 || policy == 2 && par.shape >= 0) {
                    for (int l = begin; l < begin + 40; l++) {
                        if (reachAhead(lay, p, l) > 0) begin = Math.max(begin, l + 1);
                    }
                }
                lay.begins[p] = begin;
                int n = par.words.size();
                int[] indents = new int[n];
                for (int t = 0; t < n; t++) {
                    indents[t] = par.shape >= 0 ? reachOf(par, t) : policy == 2 ? reachAhead(lay, p, begin + t) : 0;
                }
                List<Integer> way = first(par, indents);
                if (settings.get(12) == 1) way = even(par, indents, way.size());
                int i = 0;
                for (int t = 0; t < way.size(); t++) {
                    Line l = line(par, indents, t, i, way.get(t));
                    l.par = p;
                    l.clash = policy == 0 && reachAhead(lay, p, begin + t) > 0;
                    lay.lines.put(begin + t, l);
                    i += way.get(t);
                }
                lay.counts[p] = way.size();
                lay.all = begin + way.size();
            }
            return lay;
        }

        Line line(Par par, int[] indents, int t, int first, int count) {
            Line l = new Line();
            l.first = first;
            l.count = count;
            l.indent = indents[t];
            l.room = Math.max(0, settings.get(8) - indents[t]);
            l.used = used(par, first, count);
            return l;
        }

        List<Integer> first(Par par, int[] indents) {
            List<Integer> way = new ArrayList<>();
            int i = 0;
            while (i < par.words.size()) {
                int c = 1;
                while (i + c < par.words.size() && !line(par, indents, way.size(), i, c + 1).over()) c++;
                way.add(c);
                i += c;
            }
            return way;
        }

        private long[] bestMarks;
        private List<Integer> bestWay;
        private Object[] memo;

        List<Integer> even(Par par, int[] indents, int made) {
            if (par.words.size() > 12) {
                memo = new Object[81 * 81];
                return ways(par, indents, made, 0, 0).way;
            }
            bestWay = null;
            tryAll(par, indents, made, new ArrayList<>(), 0);
            return bestWay;
        }

        /** Every way there is, and the best of them by the document's order. */
        private void tryAll(Par par, int[] indents, int made, List<Integer> way, int i) {
            if (way.size() == made) {
                if (i == par.words.size()) judge(par, indents, way);
                return;
            }
            for (int c = 1; i + c <= par.words.size(); c++) {
                if (c > 1 && line(par, indents, way.size(), i, c).over()) break;
                way.add(c);
                tryAll(par, indents, made, way, i + c);
                way.remove(way.size() - 1);
            }
        }

        private void judge(Par par, int[] indents, List<Integer> way) {
            long over = 0, slack = 0;
            int i = 0;
            for (int t = 0; t < way.size(); t++) {
                Line l = line(par, indents, t, i, way.get(t));
                if (l.over()) over++;
                if (t < way.size() - 1) slack += (long) l.slack() * l.slack();
                i += way.get(t);
            }
            if (bestWay == null || isBetter(over, slack, way, bestMarks[0], bestMarks[1], bestWay)) {
                bestWay = new ArrayList<>(way);
                bestMarks = new long[] {over, slack};
            }
        }

        private static boolean isBetter(long o1, long s1, List<Integer> w1, long o2, long s2, List<Integer> w2) {
            if (o1 != o2) return o1 < o2;
            if (s1 != s2) return s1 < s2;
            for (int t = 0; t < w1.size(); t++) {
                if (!w1.get(t).equals(w2.get(t))) return w1.get(t) > w2.get(t);
            }
            return false;
        }

        static final class Way {
            long over, slack;
            List<Integer> way = new ArrayList<>();
        }

        /** The same for long paragraphs, each rest looked at once. */
        private Way ways(Par par, int[] indents, int made, int t, int i) {
            if (t == made) return i == par.words.size() ? new Way() : null;
            if (memo[t * 81 + i] != null) return memo[t * 81 + i] instanceof Way ? (Way) memo[t * 81 + i] : null;
            Way found = null;
            for (int c = 1; i + c <= par.words.size(); c++) {
                Line l = line(par, indents, t, i, c);
                if (c > 1 && l.over()) break;
                Way rest = ways(par, indents, made, t + 1, i + c);
                if (rest == null) continue;
                Way w = new Way();
                w.over = rest.over + (l.over() ? 1 : 0);
                w.slack = rest.slack + (t == made - 1 ? 0 : (long) l.slack() * l.slack());
                w.way.add(c);
                w.way.addAll(rest.way);
                if (found == null || isBetter(w.over, w.slack, w.way, found.over, found.slack, found.way)) found = w;
            }
            memo[t * 81 + i] = found == null ? "none" : found;
            return found;
        }

        // -- questions

        boolean isPar(int p) {
            return p >= 0 && p < pars.size();
        }

        int rule(int what) {
            if (what >= 8 && what <= 13) return settings.get(what);
            List<String> all = new ArrayList<>();
            for (Par p : pars) all.addAll(p.words);
            switch (what) {
                case 0: return shapes.size();
                case 1: return pars.size();
                case 2: return all.size();
                case 3: return new HashSet<>(all).size();
                case 4: return lay().all;
                case 5: { Lay l = lay(); return l.all - l.lines.size(); }
                case 6: return lay().clashes();
                case 7: return lay().overs();
                case 14: return tape.length();
                case 15: return (images[0] != null ? 1 : 0) + (images[1] != null ? 1 : 0);
                default: return BAD;
            }
        }

        int shape(int g, int what) {
            if (g < 0 || g >= shapes.size() || what < 0 || what > 3) return BAD;
            Shape s = shapes.get(g);
            if (what == 0) return s.sign;
            if (what == 1) return s.height;
            if (what == 2) return s.steps.size();
            int most = 0;
            for (int[] t : s.steps) most = Math.max(most, t[1]);
            return most;
        }

        int step(int g, int i, int what) {
            if (g < 0 || g >= shapes.size() || i < 0 || what < 0 || what > 1) return BAD;
            if (i >= shapes.get(g).steps.size()) return NONE;
            return shapes.get(g).steps.get(i)[what];
        }

        int par(int p, int what) {
            if (!isPar(p) || what < 0 || what > 9) return BAD;
            Par par = pars.get(p);
            if (what == 0) return par.words.size();
            if (what == 1) return par.shape;
            if (what == 2) return par.drop;
            if (what == 3) return h(par);
            Lay lay = lay();
            int from = lay.begins[p], n = lay.counts[p];
            if (what == 4) return from;
            if (what == 5) return n;
            int clashes = 0, firstClash = NONE, overs = 0, slacks = 0;
            for (int l = from; l < from + n; l++) {
                Line x = lay.lines.get(l);
                if (x.clash) {
                    if (clashes == 0) firstClash = l;
                    clashes++;
                }
                if (x.over()) overs++;
                if (l < from + n - 1) slacks += x.slack() * x.slack();
            }
            return what == 6 ? clashes : what == 7 ? firstClash : what == 8 ? overs : slacks;
        }

        int word(int p, int i, int what) {
            if (!isPar(p) || i < 0 || what < 0 || what > 4) return BAD;
            if (i >= pars.get(p).words.size()) return NONE;
            String w = pars.get(p).words.get(i);
            if (what == 0) return w.length();
            if (what == 1) return width(w);
            int like = 0;
            for (Par q : pars) for (String v : q.words) if (v.equals(w)) like++;
            if (what == 2) return like;
            Lay lay = lay();
            for (int l : lay.lines.keySet()) {
                Line x = lay.lines.get(l);
                if (x.par == p && i >= x.first && i < x.first + x.count) {
                    if (what == 3) return l;
                    return x.indent + (i == x.first ? 0 : used(pars.get(p), x.first, i - x.first) + 1);
                }
            }
            return -99;
        }

        int letter(int p, int i, int k) {
            if (!isPar(p) || i < 0 || k < 0) return BAD;
            if (i >= pars.get(p).words.size()) return NONE;
            String w = pars.get(p).words.get(i);
            return k >= w.length() ? NONE : w.charAt(k) - 'a' + 1;
        }

        int drawn(int p, int i, int what) {
            if (!isPar(p) || i < 0 || what < 0 || what > 2) return BAD;
            Par par = pars.get(p);
            if (par.shape < 0 || i >= shapes.get(par.shape).steps.size()) return NONE;
            return drawnStep(par, i)[what];
        }

        int reach(int p, int j) {
            if (!isPar(p) || j < 0) return BAD;
            return pars.get(p).shape < 0 ? NONE : reachOf(pars.get(p), j);
        }

        int line(int l, int what) {
            Lay lay = lay();
            if (l < 0 || l >= lay.all || what < 0 || what > 7) return BAD;
            Line x = lay.lines.get(l);
            if (x == null) return NONE;
            int[] all = {x.par, x.first, x.count, x.indent, x.room, x.used, x.over() ? 1 : 0, x.clash ? 1 : 0};
            return all[what];
        }

        int sign(int l, int k) {
            Lay lay = lay();
            if (l < 0 || l >= lay.all || k < 0) return BAD;
            Line x = lay.lines.get(l);
            if (x == null) return NONE;
            String s = String.join(" ", pars.get(x.par).words.subList(x.first, x.first + x.count));
            if (k >= s.length()) return NONE;
            return s.charAt(k) == ' ' ? 0 : s.charAt(k) - 'a' + 1;
        }

        int best(int p) {
            if (!isPar(p)) return BAD;
            Par par = pars.get(p);
            if (par.shape < 0) return NONE;
            int had = par.drop;
            int found = 0;
            long least = Long.MAX_VALUE;
            for (int n = 2; n <= 5; n++) {
                par.drop = n;
                Lay lay = lay();
                long mark = ((lay.all * 1000L + lay.clashes()) * 1000L + lay.overs()) * 10 + (5 - n);
                if (mark < least) {
                    least = mark;
                    found = n;
                }
            }
            par.drop = had;
            return found;
        }

        int tried(int p, int n) {
            if (!isPar(p) || n < 2 || n > 5) return BAD;
            Par par = pars.get(p);
            if (par.shape < 0) return NONE;
            int had = par.drop;
            par.drop = n;
            int lines = lay().all;
            par.drop = had;
            return lines;
        }

        // -- by hand

        int set(int what, int v) {
            if (what < 8 || what > 13 || v < BOUNDS[what - 8][0] || v > BOUNDS[what - 8][1]) return BAD;
            return settings.put(what, v);
        }

        int drop(int p, int g, int n) {
            if (!isPar(p)) return BAD;
            boolean none = g == NONE && n == 0;
            boolean some = g >= 0 && g < shapes.size() && n >= 2 && n <= 5;
            if (!none && !some) return BAD;
            int had = pars.get(p).drop;
            pars.get(p).shape = g;
            pars.get(p).drop = n;
            return had;
        }

        int fit() {
            int changed = 0;
            for (int p = 0; p < pars.size(); p++) {
                int b = best(p);
                if (b > 0 && b != pars.get(p).drop) {
                    changed++;
                    pars.get(p).drop = b;
                }
            }
            return changed;
        }

        int cut(int p, int i) {
            if (!isPar(p) || i <= 0 || i >= pars.get(p).words.size()) return BAD;
            if (pars.size() == 8) return FULL;
            Par rest = new Par();
            List<String> tail = pars.get(p).words.subList(i, pars.get(p).words.size());
            rest.words.addAll(tail);
            tail.clear();
            pars.add(p + 1, rest);
            return pars.size();
        }

        int join(int p) {
            if (!isPar(p)) return BAD;
            if (p == pars.size() - 1) return NONE;
            pars.get(p).words.addAll(pars.remove(p + 1).words);
            return pars.get(p).words.size();
        }

        int move(int p, int i, int q, int k) {
            if (!isPar(p) || i < 0 || i >= pars.get(p).words.size() || !isPar(q)) return BAD;
            if (k != NONE && (k < 0 || k >= pars.get(q).words.size())) return BAD;
            if (pars.get(p).words.size() == 1 || p == q && i == k) return STATE;
            String w = pars.get(p).words.get(i);
            pars.get(p).words.set(i, "!");
            pars.get(q).words.add(k == NONE ? 0 : k + 1, w);
            pars.get(p).words.remove("!");
            return pars.get(q).words.size();
        }

        int keep(int k) {
            if (k != 0 && k != 1) return BAD;
            int was = images[k] == null ? 0 : 1;
            images[k] = new Image();
            for (Par p : pars) images[k].pars.add(p.copy());
            images[k].settings.putAll(settings);
            return was;
        }

        int back(int k) {
            if (k != 0 && k != 1) return BAD;
            if (images[k] == null) return STATE;
            pars = new ArrayList<>();
            for (Par p : images[k].pars) pars.add(p.copy());
            settings = new TreeMap<>(images[k].settings);
            return pars.size();
        }
    }

    // ---- the runs

    static int wrong = 0;
    static final Random R = new Random(20261118L);
    static StringBuilder told = new StringBuilder();
    static int calls = 0;

    static int r(int n) {
        return R.nextInt(n);
    }

    static void due(String call, int got, int want) {
        calls++;
        told.append(call).append(" -> ").append(want).append('\n');
        if (got != want) {
            wrong++;
            if (wrong < 4) System.out.println(told);
            System.out.println(call + " answered " + got + ", the model says " + want);
        }
    }

    static String blanks(boolean needed) {
        int n = (needed ? 1 : 0) + (r(9) == 0 ? r(3) : 0);
        return " ".repeat(n);
    }

    static String aWord(int kind) {
        String letters = kind == 0 ? "ijlt" : kind == 1 ? "mw" : kind == 2 ? "ab" : "abcdefghijklmnopqrstuvwxyz";
        int n = kind == 0 && r(2) == 0 ? 1 : 1 + r(r(3) == 0 ? 6 : 3);
        if (r(400) == 0) n = 7;
        StringBuilder s = new StringBuilder();
        for (int i = 0; i < n; i++) s.append(letters.charAt(r(letters.length())));
        return s.toString();
    }

    static String aSetting(int which) {
        int low = BOUNDS[which][0], high = BOUNDS[which][1];
        int v = r(4) == 0 ? low : r(4) == 0 ? high : low + r(high - low + 1);
        if (r(60) == 0) v = r(2) == 0 ? low - 1 : high + 1;
        if (which == 0 && r(3) == 0) v = 20 + r(15);
        return "set" + blanks(true) + NAMES[which] + blanks(false) + Math.max(v, 0) + blanks(false) + ";" + blanks(false);
    }

    static String aShape(char sign) {
        int height = r(5) == 0 ? 1 + r(3) : 1 + r(60);
        StringBuilder s = new StringBuilder("shape" + blanks(true) + sign + blanks(false) + height);
        int depth = 0;
        int steps = 1 + r(r(3) == 0 ? 8 : 4);
        if (r(60) == 0) steps = 9;
        for (int i = 0; i < steps && depth < height + (r(40) == 0 ? 1 : 0); i++) {
            int extent = r(4) == 0 ? 0 : r(3) == 0 ? r(61) : r(height + 1);
            s.append(blanks(true)).append(depth).append(blanks(true)).append(Math.min(extent, 60));
            depth += 1 + r(r(2) == 0 ? 3 : Math.max(1, height / 3));
        }
        return s + blanks(false) + ";" + blanks(false);
    }

    /** Narrow rooms of many widths beside the letters, so that EVEN can choose which lines are over. */
    static String aNarrowText() {
        StringBuilder s = new StringBuilder("set measure " + (20 + r(6)) + ";set mode 1;set policy " + r(3) + ";shape a 20");
        for (int i = 0; i < 5; i++) s.append(" ").append(i * 4).append(" ").append(5 + r(12));
        s.append(";");
        for (int p = 0; p < 1 + r(4); p++) {
            s.append("par").append(r(3) == 0 ? "" : " a" + (2 + r(4))).append(":");
            for (int i = 0; i < 2 + r(11); i++) s.append(" ").append(aWord(3));
            s.append(";");
        }
        return s.toString();
    }

    static String aText() {
        if (r(6) == 0) return aNarrowText();
        StringBuilder s = new StringBuilder(blanks(false));
        int style = r(6);
        for (int which = 0; which < 6; which++) if (r(2) == 0) s.append(aSetting(which));
        if (r(30) == 0) s.append(aSetting(r(6)));
        int shapes = style == 0 ? r(8) : 1 + r(3);
        String signs = "abcdefgh";
        for (int g = 0; g < shapes; g++) s.append(aShape(signs.charAt(r(40) == 0 ? 0 : g)));
        int pars = style == 1 ? 1 : style == 2 ? 7 + r(3) : 1 + r(5);
        int kind = r(5);
        for (int p = 0; p < pars; p++) {
            s.append("par");
            if (r(3) != 0 && shapes > 0) {
                s.append(blanks(true)).append(signs.charAt(r(shapes))).append(blanks(false)).append(r(60) == 0 ? r(8) : 2 + r(4));
            }
            s.append(blanks(false)).append(":");
            int words = style == 1 ? 20 + r(65) : style == 2 ? 1 + r(4) : 1 + r(14);
            for (int i = 0; i < words; i++) s.append(blanks(i > 0)).append(style == 1 && words > 60 ? "ijlta".substring(i % 5, i % 5 + 1) : aWord(kind));
            s.append(blanks(false)).append(";").append(blanks(false));
        }
        if (r(3) == 0) {
            String odd = "abst:;0159 \n@{`/\0\177";
            int times = 1 + r(2);
            for (int n = 0; n < times && s.length() > 0; n++) {
                int at = r(s.length());
                int how = r(4);
                if (how == 0) s.deleteCharAt(at);
                else if (how == 1) s.insert(at, odd.charAt(r(odd.length())));
                else if (how == 2) s.setCharAt(at, odd.charAt(r(odd.length())));
                else s.setLength(at);
            }
        }
        return s.toString();
    }

    static int near(int n) {
        int k = r(40);
        if (k == 0) return -1;
        if (k == 1) return n;
        if (k == 2) return NONE;
        if (k == 3) return r(2) == 0 ? Integer.MIN_VALUE : Integer.MAX_VALUE;
        if (k == 4) return n + r(5);
        return n <= 0 ? r(3) : r(n);
    }

    static int words(Model m, int p) {
        return m.isPar(p) ? m.pars.get(p).words.size() : 3;
    }

    static void ask(DropCapitals x, Model m) {
        int pars = m.pars.size(), p = near(pars), i = near(words(m, p)), g = near(m.shapes.size());
        switch (r(14)) {
            case 0: { int w = near(16); due("rule(" + w + ")", x.rule(w), m.rule(w)); break; }
            case 1: { int w = near(4); due("shape(" + g + ", " + w + ")", x.shape(g, w), m.shape(g, w)); break; }
            case 2: { int s = near(8), w = near(2); due("step(" + g + ", " + s + ", " + w + ")", x.step(g, s, w), m.step(g, s, w)); break; }
            case 3: { int w = near(10); due("par(" + p + ", " + w + ")", x.par(p, w), m.par(p, w)); break; }
            case 4: { int w = near(5); due("word(" + p + ", " + i + ", " + w + ")", x.word(p, i, w), m.word(p, i, w)); break; }
            case 5: { int k = near(6); due("letter(" + p + ", " + i + ", " + k + ")", x.letter(p, i, k), m.letter(p, i, k)); break; }
            case 6: { int s = near(8), w = near(3); due("drawn(" + p + ", " + s + ", " + w + ")", x.drawn(p, s, w), m.drawn(p, s, w)); break; }
            case 7: { int j = near(10); due("reach(" + p + ", " + j + ")", x.reach(p, j), m.reach(p, j)); break; }
            case 8: case 9: { int l = near(m.lay().all), w = near(8); due("line(" + l + ", " + w + ")", x.line(l, w), m.line(l, w)); break; }
            case 10: { int l = near(m.lay().all), k = near(20); due("sign(" + l + ", " + k + ")", x.sign(l, k), m.sign(l, k)); break; }
            case 11: due("best(" + p + ")", x.best(p), m.best(p)); break;
            case 12: { int n = near(6); due("tried(" + p + ", " + n + ")", x.tried(p, n), m.tried(p, n)); break; }
            default: due("fault()", x.fault(), m.fault); break;
        }
    }

    static void change(DropCapitals x, Model m) {
        int pars = m.pars.size(), p = near(pars), i = near(words(m, p)), q = near(pars), k = r(6) == 0 ? NONE : near(words(m, q));
        switch (r(9)) {
            case 0: case 1: {
                int w = 8 + near(6);
                int which = w >= 8 && w <= 13 ? w - 8 : 0;
                int v = r(8) == 0 ? near(100) : BOUNDS[which][0] + r(BOUNDS[which][1] - BOUNDS[which][0] + 1) + (r(20) == 0 ? 1 : 0);
                due("set(" + w + ", " + v + ")", x.set(w, v), m.set(w, v));
                break;
            }
            case 2: {
                int g = r(5) == 0 ? NONE : near(m.shapes.size()), n = g == NONE && r(4) != 0 ? 0 : near(6);
                due("drop(" + p + ", " + g + ", " + n + ")", x.drop(p, g, n), m.drop(p, g, n));
                break;
            }
            case 3: if (r(3) == 0) due("fit()", x.fit(), m.fit()); break;
            case 4: due("cut(" + p + ", " + i + ")", x.cut(p, i), m.cut(p, i)); break;
            case 5: if (r(2) == 0) due("join(" + p + ")", x.join(p), m.join(p)); break;
            case 6: due("move(" + p + ", " + i + ", " + q + ", " + k + ")", x.move(p, i, q, k), m.move(p, i, q, k)); break;
            case 7: { int n = near(2); due("keep(" + n + ")", x.keep(n), m.keep(n)); break; }
            default: { int n = near(2); due("back(" + n + ")", x.back(n), m.back(n)); break; }
        }
    }

    static void askAll(DropCapitals x, Model m) {
        for (int w = -1; w <= 16; w++) due("rule(" + w + ")", x.rule(w), m.rule(w));
        int all = m.lay().all;
        for (int l = -1; l <= all; l++) {
            for (int w = 0; w < 8; w++) due("line(" + l + ", " + w + ")", x.line(l, w), m.line(l, w));
        }
        for (int p = 0; p < m.pars.size(); p++) {
            for (int w = 0; w < 10; w++) due("par(" + p + ", " + w + ")", x.par(p, w), m.par(p, w));
            for (int j = 0; j < 11; j++) due("reach(" + p + ", " + j + ")", x.reach(p, j), m.reach(p, j));
            for (int i = 0; i < words(m, p); i++) {
                for (int w = 0; w < 5; w++) due("word(" + p + ", " + i + ", " + w + ")", x.word(p, i, w), m.word(p, i, w));
            }
        }
    }

    static void tell(DropCapitals x, Model m) {
        String text = aText();
        while (text.length() > 400 && r(12) != 0) text = aText();
        for (char c : text.toCharArray()) due("feed(" + (int) c + ")", x.feed(c), m.feed(c));
        if (r(10) == 0) {
            int n = near(text.length());
            due("end(" + n + ")", x.end(n), m.end(n));
        }
        due("text() of \"" + text + "\"", x.text(), m.text());
        due("fault()", x.fault(), m.fault);
        faults[m.fault]++;
    }

    static final int[] faults = new int[6];

    public static void main(String[] args) {
        int runs = args.length > 0 ? Integer.parseInt(args[0]) : 400;
        if (args.length > 1) R.setSeed(Long.parseLong(args[1]));
        for (int run = 0; run < runs && wrong == 0; run++) {
            told = new StringBuilder("run " + run + "\n");
            DropCapitals x = new DropCapitals();
            Model m = new Model();
            int texts = 1 + r(3);
            for (int t = 0; t < texts; t++) {
                tell(x, m);
                for (int n = 0; n < 60; n++) {
                    if (r(3) == 0) change(x, m);
                    else ask(x, m);
                }
                if (r(4) == 0) askAll(x, m);
            }
        }
        for (int kind = 0; kind < 6; kind++) {
            if (runs >= 400 && faults[kind] == 0) {
                wrong++;
                System.out.println("no text of fault " + kind + " was tried");
            }
        }
        System.out.println(wrong == 0 ? calls + " answers are as the model's" : wrong + " answers are not as the model's");
        if (wrong != 0) System.exit(1);
    }
}
