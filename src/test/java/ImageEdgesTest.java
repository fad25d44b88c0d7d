/** The edges of images: keep, back (promises 24 and 25). */
public final class ImageEdgesTest {
    private static final String TEXT = "'shape s 60 0 1;shape t 9 0 9;par s 2:a b c;par:d;' = 4";

    private static void keeps() {
        Bench.edge("24: IMAGE k (0, 1) BAD", "keep(-1) = BAD", "keep(2) = BAD", "keep(LEAST) = BAD", "keep(MOST) = BAD", "keep(NONE) = BAD", "rule(15) = 0", TEXT,
            "keep(2) = BAD", "keep(-1) = BAD", "rule(15) = 0");
        Bench.edge("24: whether there was one (1, 0)", TEXT, "keep(0) = 0", "keep(0) = 1", "keep(1) = 0", "keep(1) = 1", "keep(0) = 1", "rule(15) = 2");
        Bench.edge("24: of the other one alone", TEXT, "keep(1) = 0", "rule(15) = 1", "back(0) = STATE", "keep(0) = 0", "rule(15) = 2");
        Bench.edge("24: it changes nothing else", TEXT, "tape 'par'", "keep(0) = 0", "rule(14) = 3", "rule(1) = 2", "rule(2) = 4", "par(0, 2) = 2", "fault() = 0");
        Bench.edge("24: in place of the one there was", TEXT, "keep(0) = 0", "join(0) = 4", "set(8, 50) = 40", "keep(0) = 1", "cut(0, 1) = 2", "cut(0, 1) = BAD",
            "back(0) = 1", "par(0, 0) = 4", "rule(8) = 50");
        Bench.edge("24: no PARAGRAPHS", "keep(0) = 0", "back(0) = 0", "rule(1) = 0", "set(8, 50) = 40", "back(0) = 0", "rule(8) = 40");
    }

    private static void backs() {
        Bench.edge("25: BAD", "back(-1) = BAD", "back(2) = BAD", "back(LEAST) = BAD", "back(MOST) = BAD", "back(NONE) = BAD", TEXT, "keep(0) = 0", "keep(1) = 0",
            "back(-1) = BAD", "back(2) = BAD");
        Bench.edge("25: STATE: there is none", "back(0) = STATE", "back(1) = STATE", TEXT, "back(0) = STATE", "keep(0) = 0", "back(1) = STATE", "back(0) = 2");
        Bench.edge("25: STATE: they are gone by a text", TEXT, "keep(0) = 0", "keep(1) = 0", "'par:a;' = 1", "back(0) = STATE", "back(1) = STATE", "par(0, 0) = 1");
        Bench.edge("25: not by a text with a FAULT", TEXT, "keep(0) = 0", "keep(1) = 0", "join(0) = 4", "'par^' = fault 2", "back(0) = 2", "join(0) = 4", "back(1) = 2");
        Bench.edge("25: WORDS are as they were", TEXT, "keep(0) = 0", "move(0, 0, 1, 0) = 2", "back(0) = 2", "par(0, 0) = 3", "par(1, 0) = 1", "letter(0, 0, 0) = 1",
            "letter(0, 2, 0) = 3", "letter(1, 0, 0) = 4", "rule(2) = 4");
        Bench.edge("25: PARAGRAPHS are as they were: joined", TEXT, "keep(1) = 0", "join(0) = 4", "back(1) = 2", "par(1, 0) = 1", "par(0, 1) = 0");
        Bench.edge("25: PARAGRAPHS are as they were: cut", TEXT, "keep(1) = 0", "cut(0, 2) = 3", "cut(0, 1) = 4", "back(1) = 2", "par(0, 0) = 3", "par(2, 0) = BAD");
        Bench.edge("25: SHAPES are as they were", TEXT, "keep(0) = 0", "drop(0, 1, 2) = 2", "drop(1, 1, 5) = 0", "back(0) = 2", "par(0, 1) = 0", "par(1, 1) = NONE",
            "par(1, 2) = 0", "rule(0) = 2");
        Bench.edge("25: DROPS are as they were", TEXT, "keep(0) = 0", "drop(0, 0, 5) = 2", "back(0) = 2", "par(0, 2) = 2", "drop(0, NONE, 0) = 2", "back(0) = 2",
            "par(0, 2) = 2", "par(0, 3) = 13");
        Bench.edge("25: DROPS are as they were: fitted", TEXT, "set(13, 1) = 0", "drop(0, 0, 5) = 2", "keep(0) = 0", "fit() = 1", "par(0, 2) = 2", "back(0) = 2",
            "par(0, 2) = 5", "rule(4) = 6");
        Bench.edge("25: SETTINGS are as they were", TEXT, "keep(0) = 0", "set(8, 99) = 40", "set(9, 20) = 8", "set(10, 20) = 5", "set(11, 9) = 1", "set(12, 1) = 0",
            "set(13, 2) = 0", "keep(1) = 0", "back(0) = 2", "rule(8) = 40", "rule(9) = 8", "rule(10) = 5", "rule(11) = 1", "rule(12) = 0", "rule(13) = 0",
            "back(1) = 2", "rule(8) = 99", "rule(9) = 20", "rule(10) = 20", "rule(11) = 9", "rule(12) = 1", "rule(13) = 2");
        Bench.edge("25: how it lies is as it was", TEXT, "rule(4) = 2", "keep(0) = 0", "set(13, 1) = 0", "rule(4) = 3", "back(0) = 2", "rule(4) = 2", "rule(6) = 1");
        Bench.edge("25: an IMAGE stays as it is, whatever is done behind it", TEXT, "keep(0) = 0", "back(0) = 2", "join(0) = 4", "set(8, 50) = 40", "drop(0, 1, 5) = 2",
            "back(0) = 2", "par(0, 0) = 3", "rule(8) = 40", "par(0, 2) = 2", "back(0) = 2", "rule(15) = 1");
        Bench.edge("25: the other IMAGE stays", TEXT, "keep(0) = 0", "join(0) = 4", "keep(1) = 0", "back(0) = 2", "back(1) = 1", "back(0) = 2", "rule(15) = 2");
        Bench.edge("25: THE TAPE and the FAULT are no part of it", TEXT, "keep(0) = 0", "'^?' = fault 1", "tape 'par:z;'", "back(0) = 2", "fault() = 1", "rule(14) = 6",
            "text() = 1", "letter(0, 0, 0) = 26");
        Bench.edge("25: eight PARAGRAPHS, eighty WORDS", "'" + ("par:" + "a ".repeat(9) + "b;").repeat(8) + "' = 8", "keep(0) = 0", "join(0) = 20", "join(0) = 30",
            "back(0) = 8", "rule(2) = 80", "letter(7, 9, 0) = 2", "cut(0, 1) = FULL");
    }

    public static void main(String[] args) {
        keeps();
        backs();
        Bench.finish();
    }
}
