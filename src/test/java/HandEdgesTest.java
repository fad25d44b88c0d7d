import java.util.ArrayList;
import java.util.List;

/** The edges of what is done by hand: set, drop, fit, cut, join, move (promises 18 to 23). */
public final class HandEdgesTest {
    // by the settings at first a letter of HEIGHT 60 and EXTENT 1 has REACH 2 in as many LINES as its DROP
    private static final String THIN = "shape s 60 0 1;";

    private static void settings() {
        String[] names = {"MEASURE", "LEADING", "CAP", "GAP", "MODE", "POLICY"};
        int[] least = {20, 4, 2, 0, 0, 0};
        int[] most = {99, 20, 20, 9, 1, 2};
        int[] first = {40, 8, 5, 1, 0, 0};
        for (int i = 0; i < 6; i++) {
            String set = "set(" + (8 + i) + ", ";
            String rule = "rule(" + (8 + i) + ") = ";
            Bench.edge("18: " + names[i] + " (" + least[i] + " to " + most[i] + ")", set + (least[i] - 1) + ") = BAD", set + (most[i] + 1) + ") = BAD",
                set + "LEAST) = BAD", set + "MOST) = BAD", set + "-1) = BAD", set + "100) = BAD", rule + first[i],
                set + least[i] + ") = " + first[i], rule + least[i], set + least[i] + ") = " + least[i], set + most[i] + ") = " + least[i], rule + most[i],
                set + (least[i] - 1) + ") = BAD", set + (most[i] + 1) + ") = BAD", rule + most[i], set + first[i] + ") = " + most[i]);
            List<String> steps = new ArrayList<>(List.of(set + most[i] + ") = " + first[i]));
            for (int o = 0; o < 6; o++) if (o != i) steps.add("rule(" + (8 + o) + ") = " + first[o]);
            Bench.edge("18: " + names[i] + " becomes v, the others stay", steps.toArray(new String[0]));
        }
        Bench.edge("18: BAD (what)", "set(7, 20) = BAD", "set(14, 20) = BAD", "set(0, 1) = BAD", "set(-1, 1) = BAD", "set(15, 1) = BAD", "set(LEAST, 1) = BAD",
            "set(MOST, 1) = BAD", "set(7, 0) = BAD", "set(14, 0) = BAD", "set(14, 1) = BAD");
    }

    private static void settingsShow() {
        Bench.edge("18: MEASURE shows", "'par:mmmmmm mmmmmm;' = 1", "rule(4) = 1", "set(8, 20) = 40", "rule(4) = 2", "set(8, 37) = 20", "rule(4) = 1", "set(8, 36) = 37",
            "rule(4) = 2");
        Bench.edge("18: LEADING shows", "'" + THIN + "par s 2:a;' = 2", "par(0, 3) = 13", "reach(0, 2) = 0", "set(9, 4) = 8", "par(0, 3) = 9", "reach(0, 2) = 2");
        Bench.edge("18: CAP shows", "'set policy 1;" + THIN + "par s 2:a;par:b;' = 4", "rule(4) = 3", "set(10, 8) = 5", "rule(4) = 3", "set(10, 9) = 8", "rule(4) = 4");
        Bench.edge("18: GAP shows", "'" + THIN + "par s 2:a;' = 2", "line(0, 3) = 2", "set(11, 9) = 1", "line(0, 3) = 10", "set(11, 0) = 9", "line(0, 3) = 1");
        Bench.edge("18: MODE shows", "'set measure 20;par:aaaa bb cc ddddd eeeeee;' = 2", "line(0, 2) = 3", "set(12, 1) = 0", "line(0, 2) = 2", "set(12, 0) = 1",
            "line(0, 2) = 3");
        Bench.edge("18: POLICY shows", "'" + THIN + "par s 3:a;par:b;' = 3", "rule(6) = 1", "set(13, 1) = 0", "rule(4) = 4", "set(13, 2) = 1", "line(1, 3) = 2",
            "set(13, 0) = 2", "rule(6) = 1");
    }

    private static void drops() {
        String two = "'shape a 9 0 1;shape b 9 0 2;par a 2:a;par:b;' = 4";
        Bench.edge("19: BAD (p)", "drop(0, NONE, 0) = BAD", two, "drop(2, 0, 2) = BAD", "drop(-1, 0, 2) = BAD", "drop(NONE, 0, 2) = BAD", "drop(LEAST, 0, 2) = BAD",
            "drop(MOST, 0, 2) = BAD", "drop(2, NONE, 0) = BAD", "drop(-1, NONE, 0) = BAD");
        Bench.edge("19: there is no such SHAPE", two, "drop(0, 2, 2) = BAD", "drop(0, -1, 2) = BAD", "drop(0, LEAST, 2) = BAD", "drop(0, MOST, 2) = BAD",
            "drop(0, 1, 2) = 2", "par(0, 1) = 1", "drop(0, 0, 2) = 2", "par(0, 1) = 0");
        Bench.edge("19: let down n LINES (2 to 5)", two, "drop(0, 0, 1) = BAD", "drop(0, 0, 6) = BAD", "drop(0, 0, 0) = BAD", "drop(0, 0, -1) = BAD",
            "drop(0, 0, NONE) = BAD", "drop(0, 0, LEAST) = BAD", "drop(0, 0, MOST) = BAD", "drop(0, 0, 5) = 2", "par(0, 2) = 5", "drop(0, 0, 2) = 5", "par(0, 2) = 2");
        Bench.edge("19: or none (g NONE, n 0)", two, "drop(0, NONE, 2) = BAD", "drop(0, NONE, 5) = BAD", "drop(0, NONE, 1) = BAD", "drop(0, NONE, -1) = BAD",
            "drop(0, NONE, NONE) = BAD", "drop(0, -1, 0) = BAD", "drop(0, -2, 0) = BAD", "drop(0, -3, 0) = BAD", "drop(0, -5, 0) = BAD", "drop(0, 2, 0) = BAD",
            "drop(0, LEAST, 0) = BAD", "drop(0, MOST, 0) = BAD", "drop(0, NONE, 0) = 2", "par(0, 1) = NONE", "par(0, 2) = 0", "par(0, 3) = 0", "drop(0, NONE, 0) = 0");
        Bench.edge("19: the DROP it had: none", two, "drop(1, 1, 4) = 0", "par(1, 1) = 1", "par(1, 2) = 4", "drop(1, 1, 4) = 4", "drop(1, NONE, 0) = 4", "par(0, 2) = 2");
        Bench.edge("19: the drop shows", "'set policy 1;" + THIN + "par s 2:a;par:b;' = 4", "rule(4) = 3", "drop(0, 0, 4) = 2", "rule(4) = 5", "drop(0, NONE, 0) = 4", "rule(4) = 2");
        Bench.edge("19: there is no SHAPE to get", "'par:a;' = 1", "drop(0, 0, 2) = BAD", "drop(0, NONE, 0) = 0");
        Bench.edge("19: the last of six, the last of eight",
            "'shape a 9 0 1;shape b 9 0 1;shape c 9 0 1;shape d 9 0 1;shape e 9 0 1;shape f 9 0 7;" + "par:a;".repeat(8) + "' = 14", "drop(7, 5, 5) = 0",
            "drop(7, 6, 5) = BAD", "drop(8, 5, 5) = BAD", "par(7, 1) = 5", "par(6, 1) = NONE");
    }

    private static void fits() {
        Bench.edge("20: no PARAGRAPHS", "fit() = 0", "rule(1) = 0");
        Bench.edge("20: none with a SHAPE", "'" + THIN + "par:a;par:b;' = 3", "fit() = 0", "par(0, 2) = 0", "par(1, 1) = NONE");
        Bench.edge("20: how many DROPS became others: none", "'" + THIN + "par s 5:a;' = 2", "fit() = 0", "par(0, 2) = 5");
        Bench.edge("20: how many DROPS became others: all", "'set policy 1;" + THIN + "par s 5:a;par s 4:b;par:c;' = 5", "fit() = 2", "par(0, 2) = 2", "par(1, 2) = 2",
            "rule(4) = 5", "fit() = 0");
        Bench.edge("20: how many DROPS became others: some", "'set policy 1;" + THIN + "par s 2:a;par:b;par s 3:c;par:d;par s 4:e;' = 7", "fit() = 2", "par(0, 2) = 2",
            "par(1, 2) = 0", "par(2, 2) = 2", "par(4, 2) = 5");
        Bench.edge("20: the fit shows", "'set policy 1;" + THIN + "par s 5:a;par:b;' = 4", "rule(4) = 6", "fit() = 1", "rule(4) = 3", "par(1, 4) = 2");
        // the first one's CLASH with LINE 3 hides what the second one would cost there, until it is fitted
        Bench.edge("20: by number, one behind another", "'set measure 20;shape a 20 0 8;par a 5:i a;par a 5:mmmmmm a;par:i;' = 5", "best(0) = 2", "best(1) = 5", "fit() = 2",
            "par(0, 2) = 2", "par(1, 2) = 2", "rule(6) = 1");
    }

    private static void cuts() {
        String some = "'" + THIN + "par s 3:a b c;par:d;par s 2:e f;' = 4";
        Bench.edge("21: BAD: p", "cut(0, 1) = BAD", some, "cut(3, 1) = BAD", "cut(-1, 1) = BAD", "cut(NONE, 1) = BAD", "cut(LEAST, 1) = BAD", "cut(MOST, 1) = BAD");
        Bench.edge("21: BAD: i 0", some, "cut(0, 0) = BAD", "cut(1, 0) = BAD", "cut(2, 0) = BAD");
        Bench.edge("21: BAD: i no WORD", some, "cut(0, 3) = BAD", "cut(0, -1) = BAD", "cut(0, NONE) = BAD", "cut(0, LEAST) = BAD", "cut(0, MOST) = BAD", "cut(1, 1) = BAD",
            "cut(2, 2) = BAD", "rule(1) = 3");
        Bench.edge("21: ahead of the last WORD", some, "cut(0, 2) = 4", "par(0, 0) = 2", "par(1, 0) = 1", "letter(1, 0, 0) = 3", "par(2, 0) = 1", "letter(2, 0, 0) = 4",
            "par(3, 0) = 2", "rule(2) = 6");
        Bench.edge("21: ahead of the second WORD", some, "cut(0, 1) = 4", "par(0, 0) = 1", "par(1, 0) = 2", "letter(1, 0, 0) = 2", "letter(1, 1, 0) = 3");
        Bench.edge("21: the latter has no SHAPE, others keep theirs", some, "cut(0, 1) = 4", "par(0, 1) = 0", "par(0, 2) = 3", "par(1, 1) = NONE", "par(1, 2) = 0",
            "par(2, 1) = NONE", "par(3, 1) = 0", "par(3, 2) = 2");
        Bench.edge("21: the latter has no SHAPE, the next one has", "'" + THIN + "par s 3:a b;par s 2:c;par s 4:d;' = 4", "cut(0, 1) = 4", "par(0, 2) = 3", "par(1, 1) = NONE",
            "par(1, 2) = 0", "par(1, 3) = 0", "par(2, 1) = 0", "par(2, 2) = 2", "par(3, 2) = 4", "cut(0, 1) = BAD");
        Bench.edge("21: of the last PARAGRAPH", some, "cut(2, 1) = 4", "par(2, 1) = 0", "par(2, 2) = 2", "par(3, 1) = NONE", "par(3, 2) = 0", "letter(3, 0, 0) = 6");
        String eight = "'" + "par:a b;".repeat(7) + "par:a;' = 8";
        Bench.edge("21: FULL: 8", eight, "cut(0, 1) = FULL", "cut(6, 1) = FULL", "rule(1) = 8", "join(0) = 4", "cut(0, 3) = 8", "cut(0, 1) = FULL");
        Bench.edge("21: up to 8", "'par:a b c d e f g h i;' = 1", "cut(0, 8) = 2", "cut(0, 7) = 3", "cut(0, 6) = 4", "cut(0, 5) = 5", "cut(0, 4) = 6", "cut(0, 3) = 7",
            "cut(0, 2) = 8", "cut(0, 1) = FULL", "rule(1) = 8", "par(0, 0) = 2", "letter(7, 0, 0) = 9");
        Bench.edge("21: BAD is ahead of FULL", eight, "cut(0, 0) = BAD", "cut(0, 2) = BAD", "cut(7, 1) = BAD", "cut(8, 1) = BAD", "cut(-1, 1) = BAD", "cut(0, MOST) = BAD");
        Bench.edge("21: the SHAPE goes on beside the latter", some, "rule(4) = 3", "rule(6) = 2", "cut(0, 1) = 4", "rule(4) = 4", "rule(6) = 2", "par(1, 7) = 1");
    }

    private static void joins() {
        String some = "'" + THIN + "par s 3:a b;par s 2:c;par:d e;par s 4:f;' = 5";
        Bench.edge("22: BAD: p", "join(0) = BAD", some, "join(4) = BAD", "join(-1) = BAD", "join(NONE) = BAD", "join(LEAST) = BAD", "join(MOST) = BAD");
        Bench.edge("22: NONE: there is no next one", some, "join(3) = NONE", "rule(1) = 4", "join(2) = 3", "join(2) = NONE", "join(3) = BAD");
        Bench.edge("22: NONE: it is the only one", "'par:a b;' = 1", "join(0) = NONE", "join(1) = BAD");
        Bench.edge("22: NONE: the last of eight", "'" + "par:a;".repeat(8) + "' = 8", "join(7) = NONE", "join(8) = BAD", "join(6) = 2", "join(6) = NONE");
        Bench.edge("22: whose SHAPE goes: both have one", some, "join(0) = 3", "rule(1) = 3", "par(0, 1) = 0", "par(0, 2) = 3", "par(1, 1) = NONE", "par(2, 2) = 4");
        Bench.edge("22: whose SHAPE goes: the first has none", some, "join(2) = 3", "par(2, 1) = NONE", "par(2, 2) = 0", "par(2, 3) = 0", "rule(1) = 3");
        Bench.edge("22: whose SHAPE goes: the next has none", some, "join(1) = 3", "par(1, 1) = 0", "par(1, 2) = 2", "par(2, 2) = 4");
        Bench.edge("22: its WORDS, in their order", some, "join(0) = 3", "letter(0, 0, 0) = 1", "letter(0, 1, 0) = 2", "letter(0, 2, 0) = 3", "letter(1, 0, 0) = 4",
            "rule(2) = 6");
        Bench.edge("22: all become one", some, "join(0) = 3", "join(0) = 5", "join(0) = 6", "join(0) = NONE", "rule(1) = 1", "rule(2) = 6", "letter(0, 5, 0) = 6");
        Bench.edge("22: the join shows", "'set policy 1;" + THIN + "par s 3:a;par:b;' = 4", "rule(4) = 4", "join(0) = 2", "rule(4) = 1", "line(0, 2) = 2");
        Bench.edge("22: eighty WORDS", "'par:" + "a ".repeat(40) + ";par:" + "b ".repeat(40) + ";' = 2", "join(0) = 80", "letter(0, 39, 0) = 1", "letter(0, 40, 0) = 2",
            "cut(0, 79) = 2", "par(1, 0) = 1");
    }

    /** What the WORDS of a PARAGRAPH are, a letter each. */
    private static List<String> words(String... pars) {
        List<String> steps = new ArrayList<>();
        for (int p = 0; p < pars.length; p++) {
            steps.add("par(" + p + ", 0) = " + pars[p].length());
            for (int i = 0; i < pars[p].length(); i++) steps.add("letter(" + p + ", " + i + ", 0) = " + (pars[p].charAt(i) - 'a' + 1));
        }
        return steps;
    }

    private static void moved(String sentence, String text, String call, String... pars) {
        List<String> steps = new ArrayList<>(List.of("'" + text + "' = " + pars.length, call));
        steps.addAll(words(pars));
        Bench.edge(sentence, steps.toArray(new String[0]));
    }

    private static void moves() {
        String some = "par:a b c;par:d e;par:f;";
        String told = "'" + some + "' = 3";
        Bench.edge("23: BAD: p", "move(0, 0, 0, NONE) = BAD", told, "move(3, 0, 0, 0) = BAD", "move(-1, 0, 0, 0) = BAD", "move(NONE, 0, 0, 0) = BAD",
            "move(LEAST, 0, 0, 0) = BAD", "move(MOST, 0, 0, 0) = BAD");
        Bench.edge("23: BAD: i", told, "move(0, 3, 1, 0) = BAD", "move(0, -1, 1, 0) = BAD", "move(0, NONE, 1, 0) = BAD", "move(0, LEAST, 1, 0) = BAD",
            "move(0, MOST, 1, 0) = BAD", "move(1, 2, 0, 0) = BAD");
        Bench.edge("23: BAD: q", told, "move(0, 0, 3, 0) = BAD", "move(0, 0, -1, 0) = BAD", "move(0, 0, 3, NONE) = BAD", "move(0, 0, NONE, NONE) = BAD",
            "move(0, 0, LEAST, 0) = BAD", "move(0, 0, MOST, 0) = BAD");
        Bench.edge("23: BAD: k", told, "move(0, 0, 1, 2) = BAD", "move(0, 0, 1, -1) = BAD", "move(0, 0, 1, -2) = BAD", "move(0, 0, 1, -3) = BAD", "move(0, 0, 1, -5) = BAD",
            "move(0, 0, 1, LEAST) = BAD", "move(0, 0, 1, MOST) = BAD", "move(0, 0, 0, 3) = BAD", "move(0, 0, 2, 1) = BAD");
        Bench.edge("23: STATE: it is the only one of its PARAGRAPH", told, "move(2, 0, 0, 0) = STATE", "move(2, 0, 0, NONE) = STATE", "move(2, 0, 1, 1) = STATE",
            "move(2, 0, 2, NONE) = STATE", "move(2, 0, 2, 0) = STATE");
        Bench.edge("23: STATE: it is WORD k itself", told, "move(0, 0, 0, 0) = STATE", "move(0, 2, 0, 2) = STATE", "move(1, 1, 1, 1) = STATE");
        Bench.edge("23: BAD is ahead of STATE", told, "move(2, 0, 3, 0) = BAD", "move(2, 0, 0, 3) = BAD", "move(2, 0, 2, 1) = BAD", "move(2, 0, 0, -1) = BAD",
            "move(2, 1, 0, 0) = BAD", "move(2, 1, 2, 1) = BAD", "move(0, 3, 0, 3) = BAD", "move(0, -1, 0, -1) = BAD");
        moved("23: the same number in another PARAGRAPH is not WORD k itself", some, "move(0, 1, 1, 1) = 3", "ac", "deb", "f");
        moved("23: comes behind WORD k", some, "move(0, 0, 1, 0) = 3", "bc", "dae", "f");
        moved("23: comes behind the last WORD", some, "move(0, 2, 1, 1) = 3", "ab", "dec", "f");
        moved("23: NONE: it is the first there", some, "move(0, 1, 1, NONE) = 3", "ac", "bde", "f");
        moved("23: the first there, of one WORD", some, "move(1, 0, 2, NONE) = 2", "abc", "e", "df");
        moved("23: behind the only WORD", some, "move(1, 1, 2, 0) = 2", "abc", "d", "fe");
        moved("23: to a PARAGRAPH ahead", some, "move(1, 1, 0, 0) = 4", "aebc", "d", "f");
        moved("23: to a PARAGRAPH ahead, behind its last", some, "move(1, 0, 0, 2) = 4", "abcd", "e", "f");
        moved("23: to a PARAGRAPH ahead, the first there", some, "move(1, 0, 0, NONE) = 4", "dabc", "e", "f");
        moved("23: k as they are ahead of it: to the right", some, "move(0, 0, 0, 1) = 3", "bac", "de", "f");
        moved("23: k as they are ahead of it: to the end", some, "move(0, 0, 0, 2) = 3", "bca", "de", "f");
        moved("23: k as they are ahead of it: to the left", some, "move(0, 2, 0, 0) = 3", "acb", "de", "f");
        moved("23: k as they are ahead of it: to the front", some, "move(0, 2, 0, NONE) = 3", "cab", "de", "f");
        moved("23: it stays where it is, behind the one ahead of it", some, "move(0, 1, 0, 0) = 3", "abc", "de", "f");
        moved("23: it stays where it is, the first there", some, "move(0, 0, 0, NONE) = 3", "abc", "de", "f");
        moved("23: two WORDS change places", some, "move(1, 0, 1, 1) = 2", "abc", "ed", "f");
        moved("23: from the first PARAGRAPH to the last", "par:a b;par:c;par:d;par:e;par:f;par:g;par:h;par:i;", "move(0, 0, 7, 0) = 2", "b", "c", "d", "e", "f", "g", "h",
            "ia");
        moved("23: from the last PARAGRAPH to the first", "par:a;par:b;par:c;par:d;par:e;par:f;par:g;par:h i;", "move(7, 1, 0, NONE) = 2", "ia", "b", "c", "d", "e", "f",
            "g", "h");
        Bench.edge("23: eighty WORDS", "'par:" + "a ".repeat(78) + "b;par:c;' = 2", "move(0, 78, 1, NONE) = 2", "par(0, 0) = 78", "letter(1, 0, 0) = 2", "letter(1, 1, 0) = 3",
            "move(1, 1, 0, NONE) = 79", "letter(0, 0, 0) = 3", "letter(0, 78, 0) = 1", "move(0, 0, 0, 78) = 79", "letter(0, 78, 0) = 3", "rule(2) = 80");
        Bench.edge("23: eighty WORDS of one PARAGRAPH", "'par:b " + "a ".repeat(78) + "c;' = 1", "move(0, 0, 0, 79) = 80", "letter(0, 79, 0) = 2", "letter(0, 78, 0) = 3",
            "letter(0, 0, 0) = 1", "move(0, 79, 0, NONE) = 80", "letter(0, 0, 0) = 2", "letter(0, 79, 0) = 3", "move(0, 0, 0, 80) = BAD", "move(0, 80, 0, 0) = BAD");
        Bench.edge("23: all but one may go", "'par:a b c;par:d;' = 2", "move(0, 0, 1, 0) = 2", "move(0, 0, 1, 1) = 3", "move(0, 0, 1, 2) = STATE", "par(0, 0) = 1",
            "rule(1) = 2");
        Bench.edge("23: SHAPES stay with their PARAGRAPHS", "'" + THIN + "par s 2:a b;par s 3:c;' = 3", "move(0, 0, 1, NONE) = 2", "par(0, 2) = 2", "par(1, 2) = 3",
            "par(1, 1) = 0");
        Bench.edge("23: the move shows", "'set measure 20;par:mmmmmm i;par:a;' = 3", "rule(4) = 2", "move(1, 0, 0, 1) = STATE", "move(0, 1, 1, 0) = 2", "line(0, 5) = 18",
            "line(1, 5) = 4", "word(1, 1, 4) = 3");
    }

    public static void main(String[] args) {
        settings();
        settingsShow();
        drops();
        fits();
        cuts();
        joins();
        moves();
        Bench.finish();
    }
}
