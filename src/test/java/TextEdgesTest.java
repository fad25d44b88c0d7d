import java.util.ArrayList;
import java.util.List;

/** The edges of the text: a new object, feed, end, text, fault (promises 1 to 5; part 1 of the terms). */
public final class TextEdgesTest {
    // something of each kind, that a text with a fault must leave as it is
    private static final String OLD = "'shape z 3 0 2;par z 2:old one;' = 2";

    private static void fault(String sentence, int kind, String text) {
        Bench.edge(sentence, OLD, "keep(0) = 0", "set(11, 3) = 1", "'" + text + "' = fault " + kind,
            "rule(0) = 1", "rule(2) = 2", "rule(11) = 3", "rule(15) = 1");
    }

    private static void taken(String sentence, int lines, String text, String... more) {
        List<String> steps = new ArrayList<>(List.of(OLD, "keep(0) = 0", "'" + text + "' = " + lines, "rule(15) = 0"));
        steps.addAll(List.of(more));
        Bench.edge(sentence, steps.toArray(new String[0]));
    }

    private static void aNewObject() {
        Bench.edge("1: No SHAPES, no PARAGRAPHS", "rule(0) = 0", "rule(1) = 0", "rule(2) = 0", "rule(3) = 0",
            "rule(4) = 0", "rule(5) = 0", "rule(6) = 0", "rule(7) = 0", "rule(14) = 0", "rule(15) = 0", "fault() = 0");
        Bench.edge("1: the settings at first", "rule(8) = 40", "rule(9) = 8", "rule(10) = 5", "rule(11) = 1",
            "rule(12) = 0", "rule(13) = 0");
        Bench.edge("1: there is nothing to ask", "shape(0, 0) = BAD", "step(0, 0, 0) = BAD", "par(0, 0) = BAD",
            "word(0, 0, 0) = BAD", "letter(0, 0, 0) = BAD", "drawn(0, 0, 0) = BAD", "reach(0, 0) = BAD",
            "line(0, 0) = BAD", "sign(0, 0) = BAD", "best(0) = BAD", "tried(0, 2) = BAD");
        Bench.edge("1: there is nothing to change", "drop(0, NONE, 0) = BAD", "drop(0, 0, 2) = BAD", "fit() = 0",
            "cut(0, 1) = BAD", "join(0) = BAD", "move(0, 0, 0, NONE) = BAD", "back(0) = STATE", "back(1) = STATE",
            "end(1) = BAD", "end(0) = 0", "text() = 0", "fault() = 0");
        Bench.edge("1: nothing can be kept, too", "keep(0) = 0", "keep(1) = 0", "back(0) = 0", "back(1) = 0", "rule(15) = 2");
    }

    private static void feedAndEnd() {
        Bench.edge("2: A byte (0 to 127)", "feed(-1) = BAD", "feed(128) = BAD", "feed(LEAST) = BAD", "feed(MOST) = BAD",
            "feed(256) = BAD", "feed(353) = BAD", "rule(14) = 0", "feed(0) = 1", "feed(127) = 2", "feed(-1) = BAD", "feed(97) = 3");
        String full = " ".repeat(399);
        Bench.edge("2: FULL: more than 400", "tape '" + full + "'", "rule(14) = 399", "feed(32) = 400", "feed(32) = FULL",
            "feed(0) = FULL", "feed(127) = FULL", "rule(14) = 400", "end(399) = 400", "feed(32) = 400", "feed(32) = FULL");
        Bench.edge("2: BAD is ahead of FULL", "tape '" + full + " '", "feed(128) = BAD", "feed(-1) = BAD", "feed(MOST) = BAD",
            "feed(127) = FULL", "rule(14) = 400");
        Bench.edge("2: behind text() THE TAPE has room again", "tape '" + full + " '", "feed(32) = FULL", "text() = 0",
            "feed(32) = 1");
        Bench.edge("3: BAD (n above that, too)", "end(1) = BAD", "end(-1) = BAD", "end(0) = 0", "tape 'abc'", "end(4) = BAD",
            "end(-1) = BAD", "end(LEAST) = BAD", "end(MOST) = BAD", "end(400) = BAD", "end(3) = 3", "end(2) = 3",
            "end(3) = BAD", "end(0) = 2", "end(1) = BAD", "rule(14) = 0");
        Bench.edge("3: the greatest n", "tape '" + full + " '", "end(401) = BAD", "end(400) = 400", "end(0) = 400");
        Bench.edge("3: THE TAPE keeps its first n bytes", "tape 'par:a;par:b;'", "end(6) = 12", "rule(14) = 6", "text() = 1",
            "letter(0, 0, 0) = 1");
        Bench.edge("3: a NUMBER loses its last figure", "tape 'set gap 999'", "end(9) = 11", "text() = -19", "fault() = 2");
        Bench.edge("3: a NUMBER loses its last figure and is one", "tape 'set gap 123'", "end(10) = 11", "text() = -18", "fault() = 3");
        Bench.edge("3: a NAME loses its last letter and is one", "tape 'par:a;pars'", "end(9) = 10", "text() = -19", "fault() = 2");
        Bench.edge("3: what is cut off is read no more", "tape 'par:a;?'", "end(6) = 7", "text() = 1");
        Bench.edge("3: what comes behind it", "tape 'par:axx'", "end(5) = 7", "tape ' b;'", "rule(14) = 8", "text() = 1",
            "par(0, 0) = 2", "letter(0, 1, 0) = 2");
    }

    private static void theTape() {
        taken("4: how many lines of it: none", 0, "", "rule(0) = 0", "rule(1) = 0");
        taken("4: blanks alone", 0, "   ", "rule(0) = 0", "rule(1) = 0");
        taken("4: how many lines of it", 1, "par:a;");
        taken("4: how many lines of it, of each kind", 3, "set gap 0;shape a 1 0 0;par a 2:a;", "rule(0) = 1", "rule(1) = 1");
        Bench.edge("4: THE TAPE has 400 bytes: all of them are read", "'" + " ".repeat(394) + "par:a;' = 1", "rule(1) = 1");
        Bench.edge("4: places from 0: the first one", "'^?' = fault 1", "rule(1) = 0");
        Bench.edge("4: the last place", "'" + " ".repeat(399) + "^?' = fault 1");
        Bench.edge("4: a NUMBER up to the last place", "'" + " ".repeat(398) + "^12' = fault 2");
        Bench.edge("4: a NUMBER that is too long up to the last place", "'" + " ".repeat(397) + "^123' = fault 1");
        Bench.edge("4: a NAME up to the last place", "'" + " ".repeat(397) + "par^' = fault 2");
        Bench.edge("4: a WORD up to the last place", "'" + " ".repeat(390) + "par:abcdef^' = fault 2");
        Bench.edge("4: a WORD of more letters up to the last place", "'" + " ".repeat(389) + "par:^abcdefg' = fault 3");
        Bench.edge("4: the end of a full tape: the length", "'par" + " ".repeat(397) + "^' = fault 2");
        Bench.edge("4: THE TAPE (empty then, by a FAULT, too)", "tape 'par:a;'", "text() = 1", "rule(14) = 0", "text() = 0",
            "tape 'par:a'", "text() = -15", "rule(14) = 0", "text() = 0");
        Bench.edge("5: The FAULT of the latest text(); 0", "fault() = 0", "'^9' = fault 2", "fault() = 2", "tape 'par'",
            "fault() = 2", "end(0) = 3", "fault() = 2", "'^?' = fault 1", "'par:^abcdefghij' = fault 3", "'par:a;' = 1", "fault() = 0");
    }

    private static void whatTextLeaves() {
        Bench.edge("1 (terms): those that are not told stay", "set(8, 50) = 40", "set(9, 9) = 8", "set(10, 6) = 5", "set(11, 2) = 1",
            "set(12, 1) = 0", "set(13, 2) = 0", "'set gap 3;' = 1", "rule(8) = 50", "rule(9) = 9", "rule(10) = 6",
            "rule(11) = 3", "rule(12) = 1", "rule(13) = 2");
        Bench.edge("4: by a FAULT settings stay, that which it told ahead, too", "'set measure 50;set gap 3;^x' = fault 2",
            "rule(8) = 40", "rule(11) = 1", "'set cap 9;set ^cap 9;' = fault 4", "rule(10) = 5");
        Bench.edge("1 (terms): in place of what there was", "'shape a 1 0 0;shape b 1 0 0;par a 2:a b;par:c;' = 4",
            "'shape c 9 0 7;par:d;' = 2", "rule(0) = 1", "rule(1) = 1", "rule(2) = 1", "shape(0, 0) = 3", "shape(1, 0) = BAD",
            "letter(0, 0, 0) = 4", "par(0, 1) = NONE", "par(0, 2) = 0", "par(1, 0) = BAD");
        Bench.edge("1 (terms): in place of what there was: fewer STEPS", "'shape a 9 0 5 1 60;' = 1", "'shape a 9 0 4;' = 1", "shape(0, 2) = 1",
            "shape(0, 3) = 4", "step(0, 1, 0) = NONE");
        Bench.edge("1 (terms): in place of what there was: fewer LINES", "'set measure 20;shape s 13 0 60;par s 2:i i;par s 2:i;' = 4", "rule(4) = 3",
            "rule(6) = 0", "rule(7) = 3", "'shape s 60 0 1;par s 5:a;' = 2", "rule(4) = 1", "rule(6) = 0", "rule(7) = 0");
        Bench.edge("1 (terms): IMAGES are gone", "'par:a;' = 1", "keep(0) = 0", "keep(1) = 0", "'' = 0", "rule(15) = 0",
            "back(0) = STATE", "back(1) = STATE", "keep(0) = 0", "keep(1) = 0");
        Bench.edge("1 (terms): by a FAULT IMAGES stay", "'par:a;' = 1", "keep(1) = 0", "'^;' = fault 2", "rule(15) = 1",
            "back(0) = STATE", "back(1) = 1", "keep(1) = 1");
        Bench.edge("1 (terms): a SIGN of what there was is told no more", "'shape a 1 0 0;par a 2:a;' = 2",
            "'par ^a 2:a;' = fault 2", "'shape a 2 0 0;par a 2:a;' = 2", "shape(0, 1) = 2");
        Bench.edge("4 (faults): a setting told by hand, or in a text ahead, is not told before", "set(11, 2) = 1",
            "'set gap 3;' = 1", "'set gap 4;' = 1", "rule(11) = 4");
    }

    private static void tokens() {
        taken("TOKENS, each as long as may be", 1, "par:setpar shape;", "par(0, 0) = 2", "word(0, 0, 0) = 6", "word(0, 1, 0) = 5");
        taken("any number of blanks (32) ahead of, between, behind them", 2, "   set   gap   7   ;   par   :   a   b   ;   ",
            "rule(11) = 7", "rule(2) = 2");
        taken("else none is needed", 4, "set gap7;shape a9 0 5 3 4;par a2:b c;par:d;", "rule(11) = 7", "step(0, 1, 1) = 4",
            "par(0, 2) = 2", "rule(2) = 3");
        fault("one at least between two NAMES", 2, "^setgap 7;");
        fault("one at least between two NAMES (a SIGN)", 2, "^shapea 9 0 5;");
        fault("one at least between two NUMBERS", 2, "shape a 9 00^;");
        fault("a blank within a NAME", 2, "^se t gap 7;");
        taken("NUMBERS (1 or 2 figures)", 3, "set gap 7;set cap 07;shape a 09 00 05;", "rule(11) = 7", "rule(10) = 7",
            "shape(0, 1) = 9", "step(0, 0, 1) = 5");
        fault("a NUMBER that is too long (its first byte)", 1, "set gap ^007;");
        fault("a NUMBER that is too long, how long it is", 1, "set gap ^99999999999999999999;");
        fault("a NUMBER that is too long, at the end", 1, "set gap ^123");
        fault("a NUMBER that is too long and a NAME behind it", 1, "set gap ^123abc;");
        taken("a NUMBER and a NAME behind it", 1, "set gap 9;");
        fault("a NUMBER and a NAME behind it can not stand there", 2, "set gap 9^gap;");
        // the bytes beside those of TOKENS, the least and the greatest
        for (int c : new int[] {0, 1, 9, 10, 13, 31, 33, 47, 60, 64, 65, 90, 91, 96, 123, 126, 127}) {
            fault("1 no TOKEN: byte " + c + " alone", 1, "^" + (char) c);
            fault("1 no TOKEN: byte " + c + " behind a NAME", 1, "par:ab^" + (char) c + ";");
            fault("1 no TOKEN: byte " + c + " behind a NUMBER", 1, "set gap 1^" + (char) c + ";");
        }
        taken("NAMES (a .. z): the first and the last", 3, "shape a 1 0 0;shape z 1 0 0;par z 2:az za;", "shape(0, 0) = 1",
            "shape(1, 0) = 26", "letter(0, 0, 0) = 1", "letter(0, 0, 1) = 26", "letter(0, 1, 0) = 26", "letter(0, 1, 1) = 1");
        taken("figures: the first and the last", 2, "set gap 09;set measure 90;", "rule(11) = 9", "rule(8) = 90");
    }

    /** At each place of the grammar each TOKEN that can not stand there, what is none, and the end. */
    private static void grammar() {
        // what is ahead, and which of NAME, NUMBER, : ; can stand behind it (E: the end)
        String[][] places = {
            {"", "E"}, {"set gap 1;", "E"}, {"shape a 9 0 1;", "E"}, {"par:a;", "E"},
            {"set ", ""}, {"set gap ", "9"}, {"set gap 1 ", ";"},
            {"shape ", ""}, {"shape a ", "9"}, {"shape a 9 ", "9"}, {"shape a 9 0 ", "9"}, {"shape a 9 0 1 ", "9;"},
            {"shape a 9 0 1 3 ", "9"}, {"shape a 9 0 1 3 1 ", "9;"},
            {"shape a 9 0 1;par ", ":"}, {"shape a 9 0 1;par a ", "9"}, {"shape a 9 0 1;par a 2 ", ":"},
            {"shape a 9 0 1;par a 2: ", "a"}, {"shape a 9 0 1;par a 2: b ", "a;"},
            {"par ", ":"}, {"par: ", "a"}, {"par: b ", "a;"}};
        for (String[] at : places) {
            String kind = "2 a TOKEN that can not stand there: behind '" + at[0] + "' ";
            // xq begins no line, names no setting, is no SIGN: but it can be a WORD
            if (!at[1].contains("a")) fault(kind + "a NAME", 2, at[0] + "^xq ;");
            if (!at[1].contains("9")) fault(kind + "a NUMBER", 2, at[0] + "^7 ;");
            if (!at[1].contains(":")) fault(kind + ":", 2, at[0] + "^: ;");
            if (!at[1].contains(";")) fault(kind + ";", 2, at[0] + "^; ;");
            if (!at[1].contains("E")) fault(kind + "the end: the length", 2, at[0] + "^");
            if (!at[1].contains("E")) fault(kind + "blanks, the end", 2, at[0] + "  ^");
            fault("1 no TOKEN, behind '" + at[0] + "'", 1, at[0] + "^= ;");
            fault("1 a NUMBER that is too long, behind '" + at[0] + "'", 1, at[0] + "^002 ;");
        }
        fault("a NAME that begins no line", 2, "^gap 1;");
        fault("a NAME that begins no line: of more letters", 2, "^pars:a;");
        fault("a NAME that begins no line: of less", 2, "^pa:a;");
        fault("a NAME that begins no line: behind another", 2, "par:a;^sha a 1 0 0;");
        for (String name : new String[] {"set", "par", "shape", "measur", "measures", "ca", "caps", "g", "polic", "modes", "leadin"}) {
            fault("names no setting: " + name, 2, "set ^" + name + " 20;");
        }
        fault("a SIGN of more letters", 2, "shape ^ab 9 0 1;");
        fault("a SIGN of more letters, in par", 2, "shape a 9 0 1;par ^aa 2:b;");
        fault("a SIGN in par of which no SHAPE is told", 2, "shape a 9 0 1;par ^b 2:b;");
        fault("a SIGN in par of which no SHAPE is told as yet", 2, "par ^a 2:b;shape a 9 0 1;");
        taken("a NAME that begins a line can be a WORD", 1, "par:set shape par;", "rule(2) = 3");
        taken("a SHAPE may be told behind a PARAGRAPH", 3, "par:b;shape a 9 0 1;par a 2:c;", "par(0, 1) = NONE", "par(1, 1) = 0");
        taken("settings may be told behind all else", 2, "par:b;set gap 2;", "rule(11) = 2");
    }

    private static void settings() {
        String[] names = {"measure", "leading", "cap", "gap", "mode", "policy"};
        int[] least = {20, 4, 2, 0, 0, 0};
        int[] most = {99, 20, 20, 9, 1, 2};
        for (int i = 0; i < 6; i++) {
            String head = "set " + names[i] + " ";
            String bounds = names[i] + " (" + least[i] + " to " + most[i] + ")";
            taken(bounds + ": the least", 1, head + least[i] + ";", "rule(" + (8 + i) + ") = " + least[i]);
            taken(bounds + ": the most", 1, head + most[i] + ";", "rule(" + (8 + i) + ") = " + most[i]);
            if (least[i] > 0) fault(bounds + ": 3 below the least", 3, head + "^" + (least[i] - 1) + ";");
            if (least[i] > 0) fault(bounds + ": 3 nought", 3, head + "^0;");
            fault(bounds + ": above the most", most[i] < 99 ? 3 : 1, head + "^" + (most[i] + 1) + ";");
            if (most[i] < 99) fault(bounds + ": 3 far above", 3, head + "^99;");
            fault("4 a setting told before: " + names[i], 4, head + most[i] + ";set ^" + names[i] + " " + most[i] + ";");
            fault("4 a setting told before, whatever comes behind it: " + names[i], 4, head + least[i] + ";set ^" + names[i] + "?");
        }
        taken("each setting once", 6, "set policy 2;set mode 1;set gap 9;set cap 20;set leading 4;set measure 99;", "rule(8) = 99",
            "rule(9) = 4", "rule(10) = 20", "rule(11) = 9", "rule(12) = 1", "rule(13) = 2");
    }

    private static void shapes() {
        taken("a HEIGHT (1 to 60): the least", 1, "shape a 1 0 3;", "shape(0, 1) = 1");
        taken("a HEIGHT (1 to 60): the most", 1, "shape a 60 0 3;", "shape(0, 1) = 60");
        fault("a HEIGHT (1 to 60): 3 nought", 3, "shape a ^0 0 3;");
        fault("a HEIGHT (1 to 60): 3 above", 3, "shape a ^61 0 3;");
        fault("a HEIGHT (1 to 60): 3 far above", 3, "shape a ^99 0 3;");
        taken("an EXTENT (0 to 60): the least, the most", 1, "shape a 9 0 0 1 60;", "step(0, 0, 1) = 0", "step(0, 1, 1) = 60");
        fault("an EXTENT (0 to 60): 3 above, of STEP 0", 3, "shape a 9 0 ^61;");
        fault("an EXTENT (0 to 60): 3 above, of STEP 1", 3, "shape a 9 0 1 3 ^61;");
        fault("STEPS (1 to 8): none", 2, "shape a 9^;");
        taken("STEPS (1 to 8): one", 1, "shape a 9 0 1;", "shape(0, 2) = 1");
        String eight = "shape a 9 0 1 1 2 2 3 3 4 4 5 5 6 6 7 7 8";
        taken("STEPS (1 to 8): eight", 1, eight + ";", "shape(0, 2) = 8", "step(0, 7, 0) = 7", "step(0, 7, 1) = 8");
        fault("a 9th DEPTH", 2, eight + " ^8 1;");
        fault("a 9th DEPTH that does not rise: the first here", 2, eight + " ^7 1;");
        fault("a 9th DEPTH that is HEIGHT: the first here", 2, eight + " ^9 1;");
        fault("a 9th DEPTH that is too long: the first here", 1, eight + " ^008 1;");
        fault("STEP 0: not 0", 3, "shape a 9 ^1 1;");
        fault("STEP 0: not 0, though HEIGHT is 1", 3, "shape a 1 ^1 1;");
        fault("STEP 0: not 0, far above", 3, "shape a 9 ^99 1;");
        taken("then rising: by one", 1, "shape a 9 0 1 1 1 2 1;", "step(0, 2, 0) = 2");
        fault("a DEPTH that does not rise: 0 again", 3, "shape a 9 0 1 ^0 1;");
        fault("a DEPTH that does not rise: like the one ahead", 3, "shape a 9 0 1 4 1 ^4 1;");
        fault("a DEPTH that does not rise: less", 3, "shape a 9 0 1 4 1 ^3 1;");
        fault("a DEPTH that does not rise: 0 at last", 3, "shape a 9 0 1 4 1 ^0 1;");
        taken("below HEIGHT: by one", 1, "shape a 9 0 1 8 1;", "step(0, 1, 0) = 8");
        taken("below HEIGHT: the greatest", 1, "shape a 60 0 1 59 1;", "step(0, 1, 0) = 59");
        fault("a DEPTH that is HEIGHT", 3, "shape a 9 0 1 ^9 1;");
        fault("a DEPTH that is more than HEIGHT", 3, "shape a 9 0 1 ^10 1;");
        fault("a DEPTH that is HEIGHT, the least", 3, "shape a 1 0 1 ^1 1;");
        fault("a DEPTH is looked at ahead of what is behind it", 3, "shape a 9 ^1");
        taken("STEPS of six SHAPES, each its own", 6, "shape a 11 0 1 1 2;shape b 12 0 3 2 4;shape c 13 0 5 3 6;shape d 14 0 7 4 8;shape e 15 0 9 5 10;"
            + "shape f 16 0 11 6 12 7 13 8 14 9 15 10 16 11 17 12 18;", "step(0, 1, 0) = 1", "step(0, 1, 1) = 2", "step(1, 1, 0) = 2", "step(1, 1, 1) = 4",
            "step(2, 1, 0) = 3", "step(2, 1, 1) = 6", "step(3, 1, 0) = 4", "step(3, 1, 1) = 8", "step(4, 1, 0) = 5", "step(4, 1, 1) = 10",
            "step(5, 1, 0) = 6", "step(5, 7, 0) = 12", "step(5, 7, 1) = 18", "shape(4, 3) = 10", "shape(5, 3) = 18");
        StringBuilder six = new StringBuilder();
        for (char c = 'a'; c <= 'f'; c++) six.append("shape ").append(c).append(" 1 0 0;");
        taken("SHAPES (6 at most): six", 6, six.toString(), "rule(0) = 6", "shape(5, 0) = 6", "shape(6, 0) = BAD");
        fault("5 the 7th shape (its NAME)", 5, six + "^shape g 1 0 0;");
        fault("5 the 7th shape, whatever comes behind it", 5, six + "^shape?");
        fault("5 the 7th shape, though its SIGN is told before", 5, six + "^shape a 1 0 0;");
        taken("SIGNS of six, any of them in par", 7, six + "par f 2:a;", "par(0, 1) = 5");
        fault("4 a SIGN told before in shape", 4, "shape a 1 0 0;shape ^a 1 0 0;");
        fault("4 a SIGN told before in shape, the last of five", 4, six.substring(0, 5 * 14) + "shape ^e 1 0 0;");
        fault("4 a SIGN told before, whatever comes behind it", 4, "shape a 1 0 0;shape ^a?");
        fault("1 is ahead of 4: a SIGN that is no TOKEN", 1, "shape a 1 0 0;shape ^A 1 0 0;");
        fault("2 where a SIGN told before has more letters", 2, "shape a 1 0 0;shape ^aa 1 0 0;");
        taken("a SIGN told before in par", 3, "shape a 1 0 0;par a 2:b;par a 2:c;", "par(1, 1) = 0");
    }

    private static void paragraphs() {
        taken("DROP LINES (2 to 5): the least", 2, "shape a 1 0 0;par a 2:b;", "par(0, 2) = 2");
        taken("DROP LINES (2 to 5): the most", 2, "shape a 1 0 0;par a 5:b;", "par(0, 2) = 5");
        taken("or none (DROP 0)", 1, "par:b;", "par(0, 1) = NONE", "par(0, 2) = 0");
        fault("DROP LINES (2 to 5): 3 below", 3, "shape a 1 0 0;par a ^1:b;");
        fault("DROP LINES (2 to 5): 3 nought", 3, "shape a 1 0 0;par a ^0:b;");
        fault("DROP LINES (2 to 5): 3 above", 3, "shape a 1 0 0;par a ^6:b;");
        fault("DROP LINES (2 to 5): 3 far above", 3, "shape a 1 0 0;par a ^99:b;");
        fault("WORDS (1 or more): none", 2, "par:^;");
        taken("a WORD of 1 to 6 letters", 1, "par:a abcdef;", "word(0, 0, 0) = 1", "word(0, 1, 0) = 6");
        fault("a WORD of more than 6 letters", 3, "par:^abcdefg;");
        fault("a WORD of more than 6 letters, behind others", 3, "par:a b ^abcdefg c;");
        fault("a WORD of far more letters", 3, "par:^" + "ab".repeat(60) + ";");
        taken("PARAGRAPHS (8 at most): eight", 8, "par:a;".repeat(8), "rule(1) = 8", "par(7, 0) = 1", "par(8, 0) = BAD");
        fault("5 the 9th par (its NAME)", 5, "par:a;".repeat(8) + "^par:a;");
        fault("5 the 9th par, whatever comes behind it", 5, "par:a;".repeat(8) + "^par?");
        fault("5 the 9th par, at the end", 5, "par:a;".repeat(8) + "^par");
        taken("eight PARAGRAPHS and other lines", 10, "par:a;".repeat(8) + "shape a 1 0 0;set gap 2;", "rule(1) = 8", "rule(0) = 1");
        fault("1 is ahead of 5: no TOKEN where the 9th par would be", 1, "par:a;".repeat(8) + "^Par:a;");
        fault("2 where the 9th par has more letters", 2, "par:a;".repeat(8) + "^para:a;");
        String eighty = "a ".repeat(80);
        taken("WORDS (80 in all at most): eighty in one", 1, "par:" + eighty + ";", "rule(2) = 80", "par(0, 0) = 80", "word(0, 79, 0) = 1",
            "word(0, 80, 0) = NONE");
        taken("80 in all at most: in eight", 8, ("par:" + "a ".repeat(10) + ";").repeat(8), "rule(2) = 80", "par(7, 0) = 10");
        fault("5 the 81st WORD", 5, "par:" + eighty + "^a;");
        fault("5 the 81st WORD, that of another PARAGRAPH", 5, "par:" + "a ".repeat(79) + ";par:a ^a;");
        fault("5 the 81st WORD, the first of another PARAGRAPH", 5, "par:" + eighty + ";par:^a;");
        fault("5 the 81st WORD of six letters", 5, "par:" + eighty + "^abcdef;");
        fault("3 is ahead of 5: the 81st WORD of more than 6 letters", 3, "par:" + eighty + "^abcdefg;");
        fault("2 where the 81st WORD would be: a NUMBER", 2, "par:" + eighty + "^2;");
        fault("2 where the 81st WORD would be: the end", 2, "par:" + eighty + "^");
        fault("1 where the 81st WORD would be: no TOKEN", 1, "par:" + eighty + "^A;");
        fault("2 behind 80 WORDS a PARAGRAPH without any", 2, "par:" + eighty + ";par:^;");
    }

    private static void theFirstMet() {
        fault("the first met as it is read", 2, "set gap ^x{");
        fault("the first met: a bound, and no TOKEN behind it", 3, "set gap ^10{");
        fault("the first met: no TOKEN, and faults behind it", 1, "set gap 1^{;set gap 10;x");
        fault("the first met: of two lines", 3, "par:^abcdefg;par:a?;");
        fault("of two at one TOKEN the first here: 1, 2", 1, "^000");
        fault("of two at one TOKEN the first here: 1, 3", 1, "set measure ^100;");
        fault("of two at one TOKEN the first here: 1, 2 of a 9th DEPTH", 1, "shape a 9 0 0 1 0 2 0 3 0 4 0 5 0 6 0 7 0 ^888;");
        fault("of two at one TOKEN the first here: 2, 3 of a NAME", 2, "set gap ^abcdefg;");
        fault("of two at one TOKEN the first here: 2, 3 of a 9th DEPTH", 2, "shape a 9 0 0 1 0 2 0 3 0 4 0 5 0 6 0 7 0 ^99;");
    }

    public static void main(String[] args) {
        aNewObject();
        feedAndEnd();
        theTape();
        whatTextLeaves();
        tokens();
        grammar();
        settings();
        shapes();
        paragraphs();
        theFirstMet();
        Bench.finish();
    }
}
