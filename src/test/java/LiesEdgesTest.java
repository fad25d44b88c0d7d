/** The edges of how it lies: drawn, reach, line, sign, best, tried (promises 12 to 17; part 2 of the terms). */
public final class LiesEdgesTest {
    // by the settings at first H is 13, 21, 29, 37; a letter of HEIGHT 60 and EXTENT 1 is 1 wide then, its REACH 2
    private static final String THIN = "shape s 60 0 1;";

    private static void heights() {
        Bench.edge("H: the least", "'set leading 4;set cap 2;shape a 9 0 1;par a 2:a;' = 4", "par(0, 3) = 6", "drawn(0, 0, 1) = 6");
        Bench.edge("H: the greatest", "'set leading 20;set cap 20;shape a 9 0 1;par a 5:a;' = 4", "par(0, 3) = 100", "drawn(0, 0, 1) = 100");
        Bench.edge("H: (DROP less 1) times LEADING, and CAP", "'shape a 9 0 1;par a 2:a;par a 3:a;par a 4:a;par a 5:a;par:a;' = 6", "par(0, 3) = 13",
            "par(1, 3) = 21", "par(2, 3) = 29", "par(3, 3) = 37", "par(4, 3) = 0", "set(9, 9) = 8", "par(3, 3) = 41", "set(10, 2) = 5", "par(3, 3) = 38");
    }

    private static void drawnSteps() {
        String text = "'shape a 26 0 1 1 2 3 3 25 0;par a 2:a;par:b;' = 3";
        Bench.edge("DRAWN: begins at its DEPTH times H by HEIGHT (down)", text, "drawn(0, 0, 0) = 0", "drawn(0, 1, 0) = 0", "drawn(0, 2, 0) = 1",
            "drawn(0, 3, 0) = 12");
        Bench.edge("DRAWN: ends where the next one begins (the last one at H)", text, "drawn(0, 0, 1) = 0", "drawn(0, 1, 1) = 1", "drawn(0, 2, 1) = 12",
            "drawn(0, 3, 1) = 13");
        Bench.edge("DRAWN: its EXTENT is EXTENT times H by HEIGHT, up", text, "drawn(0, 0, 2) = 1", "drawn(0, 1, 2) = 1", "drawn(0, 2, 2) = 2",
            "drawn(0, 3, 2) = 0");
        Bench.edge("DRAWN: where nothing is left over, neither down nor up", "'shape a 13 0 5 4 60 12 1;par a 2:a;' = 2", "drawn(0, 0, 2) = 5",
            "drawn(0, 1, 0) = 4", "drawn(0, 1, 1) = 12", "drawn(0, 1, 2) = 60", "drawn(0, 2, 0) = 12", "drawn(0, 2, 1) = 13", "drawn(0, 2, 2) = 1");
        Bench.edge("DRAWN: some may be empty: all but the last", "'set leading 4;set cap 2;shape a 60 0 1 1 2 2 3 3 4 4 5 5 6 6 7 7 60;par a 2:a;' = 4",
            "drawn(0, 0, 0) = 0", "drawn(0, 0, 1) = 0", "drawn(0, 6, 0) = 0", "drawn(0, 6, 1) = 0", "drawn(0, 7, 0) = 0", "drawn(0, 7, 1) = 6",
            "drawn(0, 7, 2) = 6", "drawn(0, 8, 0) = NONE", "reach(0, 0) = 7");
        Bench.edge("DRAWN: the greatest EXTENT", "'set leading 20;set cap 20;set gap 9;shape a 1 0 60;par a 5:a;' = 5", "drawn(0, 0, 2) = 6000",
            "reach(0, 0) = 6009", "reach(0, 4) = 6009", "reach(0, 5) = 0", "line(0, 3) = 6009", "line(0, 4) = 0", "word(0, 0, 4) = 6009");
        Bench.edge("12: BAD: p", "drawn(0, 0, 0) = BAD", text, "drawn(2, 0, 0) = BAD", "drawn(-1, 0, 0) = BAD", "drawn(NONE, 0, 0) = BAD",
            "drawn(LEAST, 0, 0) = BAD", "drawn(MOST, 0, 0) = BAD");
        Bench.edge("12: BAD: i below 0", text, "drawn(0, -1, 0) = BAD", "drawn(0, NONE, 0) = BAD", "drawn(0, LEAST, 0) = BAD");
        Bench.edge("12: BAD: what", text, "drawn(0, 0, -1) = BAD", "drawn(0, 0, 3) = BAD", "drawn(0, 0, LEAST) = BAD", "drawn(0, 0, MOST) = BAD");
        Bench.edge("12: NONE: there is no SHAPE", text, "drawn(1, 0, 0) = NONE", "drawn(1, 0, 2) = NONE", "drawn(1, MOST, 0) = NONE", "drop(0, NONE, 0) = 2",
            "drawn(0, 0, 0) = NONE");
        Bench.edge("12: NONE: there are not so many", text, "drawn(0, 3, 0) = 12", "drawn(0, 4, 0) = NONE", "drawn(0, 4, 2) = NONE", "drawn(0, MOST, 1) = NONE");
        Bench.edge("12: BAD is ahead of NONE", text, "drawn(1, -1, 0) = BAD", "drawn(1, 0, 3) = BAD", "drawn(0, 4, 3) = BAD", "drawn(0, MOST, -1) = BAD");
    }

    private static void reaches() {
        String four = "set leading 4;set cap 4;set gap 0;";
        // H 12 of HEIGHT 12: BANDS from 0, 4, 8
        Bench.edge("BAND: what only meets it has nothing of it", "'" + four + "shape a 12 0 1 4 9 8 2;par a 3:a;' = 5", "reach(0, 0) = 1", "reach(0, 1) = 9",
            "reach(0, 2) = 2", "reach(0, 3) = 0");
        Bench.edge("BAND: the last of it and the first", "'" + four + "shape a 12 0 1 3 9 9 2;par a 3:a;' = 5", "reach(0, 0) = 9", "reach(0, 1) = 9",
            "reach(0, 2) = 9");
        Bench.edge("BAND: within it", "'" + four + "shape a 12 0 1 5 9 7 2;par a 3:a;' = 5", "reach(0, 0) = 1", "reach(0, 1) = 9", "reach(0, 2) = 2");
        Bench.edge("BAND: the greatest EXTENT of those that have, wherever it is", "'" + four + "shape a 12 0 9 1 1 2 8;par a 3:a;' = 5", "reach(0, 0) = 9",
            "reach(0, 1) = 8", "reach(0, 2) = 8");
        // H 13 of HEIGHT 13: BANDS from 0, 8; CAP 5 is less than LEADING 8
        Bench.edge("BAND: LEADING of it: the last of it", "'shape a 13 0 1 7 9;par a 2:a;' = 2", "reach(0, 0) = 10", "reach(0, 1) = 10");
        Bench.edge("BAND: LEADING of it: what is behind it", "'shape a 13 0 1 8 9;par a 2:a;' = 2", "reach(0, 0) = 2", "reach(0, 1) = 10");
        Bench.edge("BAND: LEADING of it, and CAP is more", "'set leading 4;set cap 9;set gap 0;shape a 13 0 1 4 9;par a 2:a;' = 5", "reach(0, 0) = 1", "reach(0, 1) = 9",
            "reach(0, 3) = 9", "reach(0, 4) = 0");
        Bench.edge("BAND: an empty STEP at its edge (but empty ones)", "'" + four + "shape a 24 0 1 8 60 9 2;par a 3:a;' = 5", "drawn(0, 1, 0) = 4",
            "drawn(0, 1, 1) = 4", "reach(0, 0) = 1", "reach(0, 1) = 1");
        Bench.edge("BAND: an empty STEP within it (but empty ones)", "'" + four + "shape a 24 0 1 10 60 11 2;par a 3:a;' = 5", "drawn(0, 1, 0) = 5",
            "drawn(0, 1, 1) = 5", "reach(0, 0) = 1", "reach(0, 1) = 1");
        Bench.edge("REACH: the last BAND is full: CAP is LEADING", "'" + four + "shape a 1 0 1;par a 2:a;' = 5", "reach(0, 1) = 8", "reach(0, 2) = 0",
            "set(10, 5) = 4", "reach(0, 2) = 9", "reach(0, 3) = 0", "set(10, 3) = 5", "reach(0, 1) = 7", "reach(0, 2) = 0");
        Bench.edge("REACH: the most BANDS", "'set leading 4;set cap 20;shape a 60 0 1;par a 5:a;' = 4", "reach(0, 8) = 2", "reach(0, 9) = 0", "reach(0, 10) = 0");
        Bench.edge("REACH: the fewest BANDS", "'set leading 20;set cap 2;shape a 60 0 1;par a 2:a;' = 4", "reach(0, 0) = 2", "reach(0, 1) = 2", "reach(0, 2) = 0");
        Bench.edge("REACH: EXTENT 0 and GAP 0", "'" + four + "shape a 9 0 0;par a 2:a;' = 5", "reach(0, 0) = 0", "reach(0, 1) = 0", "set(11, 1) = 0",
            "reach(0, 0) = 1", "reach(0, 1) = 1", "reach(0, 2) = 0", "set(11, 9) = 1", "reach(0, 1) = 9", "reach(0, 2) = 0");
        Bench.edge("REACH: and GAP, summed", "'shape a 13 0 7;par a 2:a;' = 2", "reach(0, 0) = 8", "set(11, 0) = 1", "reach(0, 0) = 7", "set(11, 9) = 0",
            "reach(0, 0) = 16");
        String two = "'" + THIN + "par s 2:a;par:b;' = 3";
        Bench.edge("13: BAD: p", "reach(0, 0) = BAD", two, "reach(2, 0) = BAD", "reach(-1, 0) = BAD", "reach(LEAST, 0) = BAD", "reach(MOST, 0) = BAD");
        Bench.edge("13: BAD: j below 0", two, "reach(0, -1) = BAD", "reach(0, NONE) = BAD", "reach(0, LEAST) = BAD");
        // j times LEADING wraps around to 0 at 2 to the 29
        Bench.edge("13: j far away", two, "reach(0, 1) = 2", "reach(0, 2) = 0", "reach(0, MOST) = 0", "reach(0, 536870912) = 0", "reach(0, 536870911) = 0",
            "reach(0, 1073741824) = 0", "reach(0, 268435456) = 0");
        Bench.edge("13: NONE: there is no SHAPE", two, "reach(1, 0) = NONE", "reach(1, MOST) = NONE", "drop(0, NONE, 0) = 2", "reach(0, 0) = NONE");
        Bench.edge("13: BAD is ahead of NONE", two, "reach(1, -1) = BAD", "reach(1, LEAST) = BAD");
    }

    private static void begins() {
        Bench.edge("A PARAGRAPH begins with the LINE behind the last one of that ahead", "'" + THIN + "par s 5:a;par:b;par s 5:c;' = 4", "par(0, 4) = 0",
            "par(1, 4) = 1", "par(2, 4) = 2", "rule(4) = 3", "rule(5) = 0");
        Bench.edge("by PUSH behind the last LINE that a SHAPE REACHES", "'set policy 1;" + THIN + "par s 2:a;par:b;' = 4", "par(1, 4) = 2", "rule(4) = 3",
            "rule(5) = 1", "line(1, 0) = NONE");
        Bench.edge("if that is farther: it is as far", "'set policy 1;" + THIN + "par s 2:mmmmmm mmmmmm a;par:b;' = 4", "par(0, 5) = 2", "par(1, 4) = 2", "rule(5) = 0");
        Bench.edge("if that is farther: it is less far", "'set policy 1;" + THIN + "par s 2:mmmmmm mmmmmm mmmmmm mmmmmm a;par:b;' = 4", "par(0, 5) = 3",
            "par(1, 4) = 3", "rule(5) = 0");
        Bench.edge("by PUSH: a SHAPE of its own does not matter", "'set policy 1;" + THIN + "par s 3:a;par s 2:b;par:c;' = 5", "par(1, 4) = 3", "par(2, 4) = 5",
            "rule(4) = 6", "rule(5) = 3");
        Bench.edge("by WRAP if it has a SHAPE of its own", "'set policy 2;" + THIN + "par s 3:a;par s 2:b;par:c;' = 5", "par(1, 4) = 3", "rule(5) = 2",
            "par(2, 4) = 4", "rule(4) = 5");
        Bench.edge("by WRAP, a SHAPE of its own: it is as far", "'set policy 2;" + THIN + "par s 2:a;par:b;par s 2:c;' = 5", "par(1, 4) = 1", "par(2, 4) = 2",
            "rule(5) = 0");
        Bench.edge("by WRAP, a SHAPE two ahead", "'set policy 2;" + THIN + "par s 5:a;par:b;par s 2:c;' = 5", "par(1, 4) = 1", "par(2, 4) = 5", "rule(5) = 3",
            "line(1, 0) = 1", "line(2, 0) = NONE", "line(4, 7) = NONE", "line(5, 0) = 2");
        Bench.edge("the last LINE that it REACHES: EXTENT 0, GAP 0 below",
            "'set policy 1;set gap 0;set leading 4;set cap 4;shape s 12 0 5 4 0;par s 3:a;par:b;' = 7", "par(1, 4) = 1", "rule(5) = 0", "set(11, 1) = 0",
            "par(1, 4) = 3", "rule(5) = 2");
        Bench.edge("the last LINE that it REACHES: EXTENT 0, GAP 0 between",
            "'set policy 1;set gap 0;set leading 4;set cap 4;shape s 12 0 5 4 0 8 5;par s 3:a;par:b;' = 7", "reach(0, 1) = 0", "par(1, 4) = 3", "rule(5) = 2");
        Bench.edge("a SHAPE that REACHES no LINE", "'set policy 1;set gap 0;shape s 9 0 0;par s 5:a;par:b;' = 5", "par(1, 4) = 1", "rule(5) = 0", "rule(4) = 2");
        // each of the eight leaves eight LINES empty; the last one none
        Bench.edge("the most LINES between", "'set policy 1;set leading 4;set cap 20;" + THIN + "par s 5:a;".repeat(8) + "' = 12", "par(7, 4) = 63",
            "rule(4) = 64", "rule(5) = 56", "line(63, 0) = 7", "line(64, 0) = BAD");
        Bench.edge("the most WORDS and the most LINES between", "'set policy 1;set leading 4;set cap 20;set measure 20;shape s 1 0 60;"
            + ("par s 5:" + "i ".repeat(9) + ";").repeat(7) + "par s 5:" + "i ".repeat(17) + ";' = 13", "rule(2) = 80", "rule(4) = 73", "rule(5) = 0", "rule(7) = 72",
            "par(7, 5) = 10", "line(72, 2) = 8", "line(72, 6) = 0");
    }

    private static void mostLines() {
        // seven letters of nine LINES, each beside one WORD; 73 WORDS, none two of which go into one LINE
        Bench.edge("the most LINES of all", "'shape s 1 0 60;" + "par:a;".repeat(7) + "par:" + "i ".repeat(9) + "mmmmmm a ".repeat(32) + ";' = 9", "set(13, 1) = 0",
            "set(8, 20) = 40", "set(9, 4) = 8", "set(10, 20) = 5", "drop(0, 0, 5) = 0", "drop(1, 0, 5) = 0", "drop(2, 0, 5) = 0", "drop(3, 0, 5) = 0",
            "drop(4, 0, 5) = 0", "drop(5, 0, 5) = 0", "drop(6, 0, 5) = 0", "drop(7, 0, 5) = 0", "rule(2) = 80", "rule(4) = 136", "rule(5) = 56", "rule(7) = 16",
            "par(7, 4) = 63", "par(7, 5) = 73", "line(135, 0) = 7", "line(135, 1) = 72", "line(135, 6) = 0", "line(136, 0) = BAD", "word(7, 72, 3) = 135",
            "set(12, 1) = 0", "rule(4) = 136", "line(135, 1) = 72");
        Bench.edge("LINES behind the last one that the own SHAPE REACHES", "'set measure 20;set leading 4;set cap 20;" + THIN + "par s 5:" + "mmmmmm ".repeat(11) + ";' = 5",
            "rule(4) = 11", "line(0, 3) = 2", "line(8, 3) = 2", "line(9, 3) = 0", "line(10, 3) = 0", "line(9, 4) = 20");
        // nine LINES behind the first PARAGRAPH, which has no SHAPE, ahead of one that has
        Bench.edge("LINES that no SHAPE REACHES", "'set measure 20;" + THIN + "par:a;par s 2:b;par:" + "mmmmmm ".repeat(9) + ";' = 5", "rule(4) = 11", "rule(6) = 1",
            "line(2, 7) = 1", "line(3, 7) = 0", "line(9, 7) = 0", "line(10, 7) = 0", "set(13, 2) = 0", "line(2, 3) = 2", "line(3, 3) = 0", "line(9, 3) = 0", "line(10, 3) = 0");
        Bench.edge("by WRAP the first PARAGRAPH, which has no SHAPE", "'set policy 2;set measure 20;par:mmmmmm i;' = 3", "line(0, 3) = 0", "line(0, 4) = 20", "rule(4) = 1");
        Bench.edge("by WRAP no SHAPE ahead REACHES it", "'set policy 2;set measure 20;" + THIN + "par:" + "mmmmmm ".repeat(10) + ";par:mmmmmm i;' = 5", "par(1, 4) = 10",
            "line(10, 3) = 0", "line(10, 4) = 20", "rule(4) = 11");
    }

    private static void rooms() {
        Bench.edge("INDENT: the REACH there of the own SHAPE", "'" + THIN + "par s 2:mmmmmm mmmmmm mmmmmm mmmmmm a b;' = 2", "line(0, 3) = 2", "line(1, 3) = 2",
            "line(2, 3) = 0", "line(0, 4) = 38", "line(2, 4) = 40");
        Bench.edge("INDENT: by TELL, by PUSH a SHAPE ahead does not matter", "'" + THIN + "par s 5:a;par:b;' = 3", "line(1, 3) = 0", "line(1, 4) = 40",
            "set(13, 1) = 0", "line(5, 3) = 0", "line(5, 4) = 40", "set(13, 2) = 1", "line(1, 3) = 2", "line(1, 4) = 38");
        Bench.edge("INDENT: by WRAP, if it has none: up to the last LINE that is reached",
            "'set policy 2;set measure 20;" + THIN + "par s 3:a;par:mmmmmm mmmmmm mmmmmm;' = 5", "line(1, 3) = 2", "line(2, 3) = 2", "line(3, 3) = 0",
            "line(2, 4) = 18", "line(3, 4) = 20", "rule(7) = 0");
        Bench.edge("INDENT: by WRAP, of a SHAPE two ahead", "'set policy 2;" + THIN + "par s 3:a;par:b;par:c;par:d;' = 6", "line(1, 3) = 2", "line(2, 3) = 2",
            "line(3, 3) = 0");
        Bench.edge("INDENT: by WRAP the own SHAPE alone", "'set policy 2;shape s 13 0 9;shape t 60 0 0;par s 2:a;par t 2:b;' = 5", "line(0, 3) = 10",
            "line(1, 0) = NONE", "line(2, 3) = 1");
        Bench.edge("INDENT: by WRAP, EXTENT 0 and GAP 0", "'set policy 2;set gap 0;shape s 13 0 0;par s 2:a;par:b;' = 5", "line(1, 3) = 0", "line(1, 4) = 40");
        String head = "'set measure 20;shape s 13 0 ";
        Bench.edge("ROOM: MEASURE less INDENT: 1", head + "18;par s 2:i;' = 3", "line(0, 3) = 19", "line(0, 4) = 1", "line(0, 6) = 0");
        Bench.edge("ROOM: MEASURE less INDENT: 0", head + "19;par s 2:i;' = 3", "line(0, 3) = 20", "line(0, 4) = 0", "line(0, 6) = 1");
        Bench.edge("ROOM: 0 at least", head + "20;par s 2:i;' = 3", "line(0, 3) = 21", "line(0, 4) = 0", "line(0, 5) = 1", "line(0, 6) = 1");
        Bench.edge("ROOM: 0 at least, far above", head + "60;par s 2:i;' = 3", "line(0, 3) = 61", "line(0, 4) = 0", "line(0, 6) = 1");
        Bench.edge("ROOM: 0 at least, by WRAP", "'set policy 2;set measure 20;shape s 13 0 60;par s 2:a;par:i i;' = 5", "line(1, 3) = 61", "line(1, 4) = 0",
            "line(1, 2) = 1", "line(1, 6) = 1", "line(2, 4) = 20", "line(2, 6) = 0");
    }

    private static void fits() {
        Bench.edge("They FIT, if they are ROOM at most: ROOM", "'set measure 20;par:mmmmmm i;' = 2", "rule(4) = 1", "line(0, 5) = 20", "line(0, 6) = 0");
        Bench.edge("They FIT, if they are ROOM at most: one more", "'set measure 20;par:mmmmmm a;' = 2", "rule(4) = 2", "line(0, 5) = 18", "line(1, 5) = 2");
        Bench.edge("with what is between", "'set measure 20;par:aaaaa aaaaa;par:aaaa aaaaa i;' = 3", "rule(4) = 4", "par(0, 5) = 2", "par(1, 5) = 2");
        Bench.edge("OVER: one WORD that is as wide as ROOM", "'set measure 20;shape s 13 0 17;par s 2:a a;' = 3", "line(0, 4) = 2", "line(0, 5) = 2", "line(0, 6) = 0",
            "rule(7) = 0");
        Bench.edge("OVER: one WORD that is wider by one", "'set measure 20;shape s 13 0 17;par s 2:m a;' = 3", "line(0, 5) = 3", "line(0, 6) = 1", "line(1, 6) = 0",
            "rule(7) = 1");
        Bench.edge("one at least into each: OVER, one WORD alone", "'set measure 20;shape s 13 0 60;par s 2:i i i i;' = 3", "line(0, 2) = 1", "line(1, 2) = 1",
            "line(2, 2) = 2", "rule(4) = 3", "rule(7) = 2");
        Bench.edge("FIRST: behind a LINE that is OVER as many as FIT", "'set measure 20;shape s 13 0 14;par s 2:mm a i;' = 3", "line(0, 6) = 1", "line(1, 2) = 2",
            "line(1, 5) = 4", "line(1, 6) = 0");
        Bench.edge("the greatest MEASURE", "'set measure 99;par:" + "i ".repeat(51) + ";' = 2", "line(0, 2) = 50", "line(0, 5) = 99", "line(1, 2) = 1");
        Bench.edge("as many LINES as WORDS", "'set measure 20;par:" + "mmmmmm ".repeat(40) + ";' = 2", "rule(4) = 40", "set(12, 1) = 0", "rule(4) = 40", "line(39, 1) = 39");
    }

    private static void even() {
        String narrow = "set measure 20;";
        // WIDTHS 8 4 4 10 12: FIRST leaves 2 and 10, EVEN 7 and 5
        Bench.edge("FIRST: into each LINE as many as FIT", "'" + narrow + "par:aaaa bb cc ddddd eeeeee;' = 2", "line(0, 2) = 3", "line(1, 2) = 1", "line(2, 2) = 1",
            "par(0, 9) = 104");
        Bench.edge("EVEN: SLACK squared is summed the least", "'set mode 1;" + narrow + "par:aaaa bb cc ddddd eeeeee;' = 3", "line(0, 2) = 2", "line(1, 2) = 2",
            "line(2, 2) = 1", "par(0, 9) = 74", "rule(4) = 3");
        // WIDTHS 6 4 2 2 8 12: FIRST leaves 3 and 12; 9 and 6 or 6 and 9 are less, and like
        Bench.edge("EVEN: of like ones the one with more WORDS in the first LINE", "'set mode 1;" + narrow + "par:aaa aa a a aaaa aaaaaa;' = 3", "line(0, 2) = 3",
            "line(1, 2) = 2", "line(2, 2) = 1", "par(0, 9) = 117", "set(12, 0) = 1", "line(0, 2) = 4", "par(0, 9) = 153");
        Bench.edge("EVEN: in the first LINE that is unlike", "'set mode 1;" + narrow + "par:mmmmmm aaa aa a a aaaa aaaaaa;' = 3", "line(0, 2) = 1", "line(1, 2) = 3",
            "line(2, 2) = 2", "line(3, 2) = 1", "par(0, 9) = 121");
        Bench.edge("EVEN: of all LINES but its last", "'set mode 1;" + narrow + "par:aaaa bbbb cc;' = 3", "line(0, 2) = 2", "line(1, 2) = 1", "par(0, 9) = 9");
        Bench.edge("EVEN: one LINE", "'set mode 1;" + narrow + "par:a b c;' = 3", "rule(4) = 1", "line(0, 2) = 3", "par(0, 9) = 0");
        Bench.edge("EVEN: one WORD", "'set mode 1;" + narrow + "par:a;' = 3", "rule(4) = 1", "line(0, 2) = 1");
        // ROOM 7, 7, 20: one WORD of 9 goes into none of the first two
        Bench.edge("EVEN: the fewest are OVER, whatever SLACK is", "'" + narrow + "shape s 13 0 12;par s 2:a b mmm mm;' = 3", "line(0, 2) = 2", "rule(7) = 1",
            "par(0, 9) = 4", "set(12, 1) = 0", "rule(7) = 0", "rule(4) = 3", "line(0, 2) = 1", "line(1, 2) = 1", "line(2, 2) = 2", "par(0, 9) = 50");
        // ROOM 0, 0, 20: two are OVER however they lie, the third LINE takes the rest
        Bench.edge("EVEN: SLACK is 0 if it is OVER", "'set mode 1;" + narrow + "shape s 13 0 60;par s 2:mmmmmm mmmmmm a b;' = 4", "rule(4) = 3", "rule(7) = 2",
            "line(2, 2) = 2", "par(0, 9) = 0");
        Bench.edge("EVEN: one WORD that is OVER by one", "'" + narrow + "shape s 13 0 12;par s 2:a b aaaa mm;' = 3", "rule(7) = 1", "set(12, 1) = 0", "rule(7) = 0",
            "line(0, 2) = 1", "line(1, 2) = 1", "line(2, 2) = 2", "par(0, 9) = 50");
        Bench.edge("EVEN: where OVER can not be helped", "'set mode 1;" + narrow + "shape s 13 0 12;par s 2:a b mmm;' = 4", "rule(4) = 2", "rule(7) = 1", "line(0, 2) = 2",
            "line(1, 2) = 1", "line(1, 6) = 1", "par(0, 9) = 4");
        // ROOM 7, 7, 15, 20: mmm mm are 16; two LINES with much SLACK and they OVER together would sum up to less
        Bench.edge("EVEN: two WORDS that do not FIT never go together", "'set mode 1;" + narrow + "shape s 21 0 12 16 4;par s 3:a b mmm mm mmmmmm;' = 4", "rule(4) = 4",
            "rule(7) = 1", "line(0, 2) = 2", "line(1, 2) = 1", "line(1, 6) = 1", "line(2, 2) = 1", "line(2, 4) = 15", "par(0, 9) = 85");
        Bench.edge("EVEN: a LINE that is full", "'set mode 1;" + narrow + "par:mmmmmm i a;' = 3", "rule(4) = 2", "line(0, 2) = 2", "par(0, 9) = 0");
        Bench.edge("EVEN: a LINE that would be too full by one", "'set mode 1;" + narrow + "par:mmmmmm a b;' = 3", "rule(4) = 2", "line(0, 2) = 1", "line(1, 2) = 2",
            "par(0, 9) = 4", "rule(7) = 0");
        // forty LINES of eighty WORDS, and the first ones lie otherwise than by FIRST
        Bench.edge("EVEN: forty LINES of eighty WORDS", "'set measure 20;par:aaaa bb cc ddddd eeeeee " + "wwww i ".repeat(37) + "i;' = 2", "rule(2) = 80", "rule(4) = 40",
            "par(0, 9) = 1464", "set(12, 1) = 0", "rule(4) = 40", "line(0, 2) = 2", "line(1, 2) = 2", "line(2, 2) = 1", "line(39, 2) = 3", "par(0, 9) = 1434");
        Bench.edge("EVEN: as few LINES as by FIRST, eighty WORDS", "'set mode 1;set measure 21;par:" + "i ".repeat(80) + ";' = 3", "rule(4) = 8",
            "line(0, 2) = 11", "line(6, 2) = 11", "line(7, 2) = 3", "par(0, 9) = 0");
        Bench.edge("EVEN: half as many LINES as WORDS", "'set mode 1;set measure 20;par:" + "wwww i ".repeat(40) + ";' = 3", "rule(2) = 80", "rule(4) = 40",
            "line(0, 2) = 2", "line(38, 2) = 2", "line(39, 1) = 78", "line(39, 2) = 2", "par(0, 9) = 1404");
    }

    private static void clashes() {
        Bench.edge("A CLASH: the last LINE that is reached, and the one behind it", "'set measure 20;" + THIN + "par s 2:a;par:mmmmmm mmmmmm;' = 4",
            "line(1, 7) = 1", "line(2, 7) = 0", "par(1, 6) = 1", "par(1, 7) = 1", "rule(6) = 1");
        Bench.edge("A CLASH: not of its own SHAPE, nor ahead of it", "'" + THIN + "par:a;par s 5:b;' = 3", "rule(6) = 0", "line(0, 7) = 0", "line(1, 7) = 0");
        Bench.edge("A CLASH: of a PARAGRAPH with a SHAPE, too", "'" + THIN + "par s 2:a;par s 2:b;' = 3", "rule(6) = 1", "line(1, 7) = 1", "line(1, 3) = 2");
        Bench.edge("A CLASH: by two SHAPES it is one", "'" + THIN + "par s 5:a;par s 4:b;par:c;' = 4", "rule(6) = 2", "par(2, 6) = 1", "par(2, 7) = 2");
        Bench.edge("A CLASH: by a SHAPE far ahead", "'" + THIN + "par s 5:a;par:b;par:c;par:d;par:e;par:f;' = 7", "rule(6) = 4", "line(4, 7) = 1", "line(5, 7) = 0");
        Bench.edge("A CLASH (by TELL alone)", "'" + THIN + "par s 5:a;par:b;' = 3", "rule(6) = 1", "set(13, 1) = 0", "rule(6) = 0", "par(1, 7) = NONE", "set(13, 2) = 1",
            "rule(6) = 0", "line(1, 7) = 0", "par(1, 7) = NONE");
        Bench.edge("A CLASH: REACH is above 0", "'set gap 0;shape s 9 0 0;par s 5:a;par:b;' = 4", "rule(6) = 0", "set(11, 1) = 0", "rule(6) = 1");
    }

    private static void lines() {
        String some = "'set policy 1;" + THIN + "par s 3:a b;par:c;' = 4";
        Bench.edge("14: there is no such LINE", "line(0, 0) = BAD", some, "rule(4) = 4", "line(4, 0) = BAD", "line(-1, 0) = BAD", "line(NONE, 0) = BAD",
            "line(LEAST, 0) = BAD", "line(MOST, 0) = BAD", "line(3, 0) = 1");
        Bench.edge("14: BAD (what)", some, "line(0, -1) = BAD", "line(0, 8) = BAD", "line(0, LEAST) = BAD", "line(0, MOST) = BAD", "line(0, 7) = 0");
        Bench.edge("14: (NONE: it is empty), 1 to 7 of an empty one: NONE", some, "line(1, 0) = NONE", "line(1, 1) = NONE", "line(1, 2) = NONE", "line(1, 3) = NONE",
            "line(1, 4) = NONE", "line(1, 5) = NONE", "line(1, 6) = NONE", "line(1, 7) = NONE", "line(2, 0) = NONE", "line(2, 7) = NONE");
        Bench.edge("14: BAD is ahead of NONE", some, "line(1, 8) = BAD", "line(1, -1) = BAD", "line(1, MOST) = BAD");
        Bench.edge("14: 0 its PARAGRAPH, 1 its first WORD, 2 WORDS", "'set measure 20;par:mmmmmm i aaa b;par:c;' = 3", "line(0, 0) = 0", "line(0, 1) = 0",
            "line(0, 2) = 2", "line(1, 0) = 0", "line(1, 1) = 2", "line(1, 2) = 2", "line(2, 0) = 1", "line(2, 1) = 0", "line(2, 2) = 1");
        Bench.edge("14: a LINE that was empty is one no more", some, "line(1, 0) = NONE", "set(13, 0) = 1", "line(1, 0) = 1", "line(1, 7) = 1", "line(2, 0) = BAD",
            "set(13, 1) = 0", "line(1, 0) = NONE", "line(1, 7) = NONE", "rule(6) = 0");
        Bench.edge("15: BAD: l", "sign(0, 0) = BAD", some, "sign(4, 0) = BAD", "sign(-1, 0) = BAD", "sign(NONE, 0) = BAD", "sign(LEAST, 0) = BAD", "sign(MOST, 0) = BAD");
        Bench.edge("15: BAD: k below 0", some, "sign(0, -1) = BAD", "sign(0, NONE) = BAD", "sign(0, LEAST) = BAD");
        Bench.edge("15: NONE: there are not so many", some, "sign(0, 0) = 1", "sign(0, 1) = 0", "sign(0, 2) = 2", "sign(0, 3) = NONE", "sign(0, 4) = NONE",
            "sign(0, MOST) = NONE", "sign(3, 0) = 3", "sign(3, 1) = NONE");
        Bench.edge("15: NONE of an empty one", some, "sign(1, 0) = NONE", "sign(1, MOST) = NONE", "sign(2, 0) = NONE");
        Bench.edge("15: BAD is ahead of NONE", some, "sign(1, -1) = BAD", "sign(1, LEAST) = BAD");
        Bench.edge("15: (0 between two WORDS), not behind the last of a LINE", "'set measure 20;par:mmmmmz i abcdef;' = 2", "sign(0, 5) = 26", "sign(0, 6) = 0",
            "sign(0, 7) = 9", "sign(0, 8) = NONE", "sign(0, 9) = NONE", "sign(1, 0) = 1", "sign(1, 5) = 6", "sign(1, 6) = NONE");
    }

    private static void bests() {
        String two = "'" + THIN + "par s 2:a;par:b;' = 3";
        Bench.edge("16: BAD", "best(0) = BAD", two, "best(2) = BAD", "best(-1) = BAD", "best(NONE) = BAD", "best(LEAST) = BAD", "best(MOST) = BAD");
        Bench.edge("16: NONE: there is no SHAPE", two, "best(1) = NONE", "drop(0, NONE, 0) = 2", "best(0) = NONE");
        Bench.edge("17: BAD (p)", "tried(0, 2) = BAD", two, "tried(2, 2) = BAD", "tried(-1, 2) = BAD", "tried(NONE, 2) = BAD", "tried(LEAST, 2) = BAD",
            "tried(MOST, 2) = BAD");
        Bench.edge("17: n (2 to 5)", two, "tried(0, 2) = 2", "tried(0, 5) = 2", "tried(0, 1) = BAD", "tried(0, 6) = BAD", "tried(0, 0) = BAD", "tried(0, -1) = BAD",
            "tried(0, LEAST) = BAD", "tried(0, MOST) = BAD");
        Bench.edge("17: NONE: there is no SHAPE", two, "tried(1, 2) = NONE", "tried(1, 5) = NONE");
        Bench.edge("17: BAD is ahead of NONE", two, "tried(1, 1) = BAD", "tried(1, 6) = BAD", "tried(1, 0) = BAD", "tried(1, LEAST) = BAD");
        Bench.edge("17: How many LINES there would be in all", "'set policy 1;" + THIN + "par s 3:a;par s 5:b;par:c;' = 5", "tried(0, 2) = 8", "tried(0, 3) = 9",
            "tried(0, 4) = 10", "tried(0, 5) = 11", "tried(1, 2) = 6", "tried(1, 5) = 9", "par(0, 2) = 3", "par(1, 2) = 5", "rule(4) = 9", "rule(5) = 6");
        Bench.edge("THE BEST: the fewest LINES (empty ones, too)", "'set policy 1;" + THIN + "par s 5:a;par:b;' = 4", "best(0) = 2", "par(0, 2) = 5", "rule(4) = 6");
        // EXTENT 9 above 5, 60 below 59, none between: DROP 2 leaves ROOM 18 for 17, others less; it REACHES LINE 0 and its last one
        String forked = "set measure 20;set gap 0;shape s 60 0 9 5 0 59 60;";
        Bench.edge("THE BEST: the fewest LINES, then the fewest CLASHES", "'" + forked + "par s 5:aaaa aaaa;par:a;' = 5", "tried(0, 2) = 2", "tried(0, 3) = 3",
            "tried(0, 5) = 3", "rule(6) = 0", "best(0) = 2", "drop(0, 0, 2) = 5", "rule(6) = 1", "best(0) = 2");
        Bench.edge("THE BEST: the fewest CLASHES, then the fewest OVER", "'" + forked + "par s 2:mmmmmm;par:a;' = 5", "rule(6) = 1", "rule(7) = 0", "tried(0, 2) = 2",
            "tried(0, 5) = 2", "best(0) = 5", "drop(0, 0, 5) = 2", "rule(6) = 0", "rule(7) = 1", "best(0) = 5");
        // DROP 2: one CLASH, none OVER; 3, 4: no CLASH, two OVER; 5: both
        Bench.edge("THE BEST: one CLASH less, though two more are OVER", "'set measure 20;set gap 0;set cap 13;shape s 60 0 5 26 0 59 60;par s 2:mmmmmm mmmmmm;par:a;' = 6",
            "rule(6) = 1", "rule(7) = 0", "best(0) = 4", "drop(0, 0, 3) = 2", "rule(6) = 0", "rule(7) = 2", "drop(0, 0, 5) = 3", "rule(6) = 1", "rule(7) = 2", "rule(4) = 3");
        // ROOM 18, 16, 15, 14 by DROP 2 to 5: 18 is OVER by all but the least
        Bench.edge("THE BEST: the fewest OVER, then the greatest DROP", "'" + forked + "par s 5:mmmmmm;' = 4", "rule(7) = 1", "best(0) = 2");
        Bench.edge("THE BEST: then the greatest DROP", "'" + THIN + "par s 2:a;' = 2", "best(0) = 5", "par(0, 2) = 2");
        Bench.edge("THE BEST: the greatest DROP of some that are like", "'shape s 37 0 37;par s 5:aaaaaa;' = 2", "rule(7) = 1", "best(0) = 3");
        // LINE 2 is a CLASH by the second SHAPE anyway: DROP 3 of the first one costs no more than 2
        Bench.edge("THE BEST: the fewest CLASHES of all", "'set measure 20;shape s 13 0 9;par s 2:a;par s 2:b;par:c;par:d;' = 6", "rule(6) = 2", "best(0) = 3",
            "best(1) = 2");
    }

    public static void main(String[] args) {
        heights();
        drawnSteps();
        reaches();
        begins();
        mostLines();
        rooms();
        fits();
        even();
        clashes();
        lines();
        bests();
        Bench.finish();
    }
}
