import java.util.ArrayList;
import java.util.List;

/** The edges of what is told: rule, shape, step, par, word, letter (promises 6 to 11). */
public final class ToldEdgesTest {
    private static final String SIX = "shape a 1 0 0;shape b 2 0 1;shape c 3 0 2;shape d 4 0 3;shape e 5 0 4;shape z 60 0 60;";

    private static void rules() {
        Bench.edge("6: rule BAD", "rule(-1) = BAD", "rule(16) = BAD", "rule(LEAST) = BAD", "rule(MOST) = BAD", "rule(-4) = BAD",
            "rule(15) = 0", "rule(0) = 0", "'par:a b;' = 1", "rule(-1) = BAD", "rule(16) = BAD");
        Bench.edge("6: 0 SHAPES: none, all", "rule(0) = 0", "'" + SIX + "' = 6", "rule(0) = 6", "rule(1) = 0", "rule(2) = 0", "rule(4) = 0");
        Bench.edge("6: 1 PARAGRAPHS: all", "'" + "par:a;".repeat(8) + "' = 8", "rule(1) = 8", "rule(2) = 8", "rule(3) = 1", "rule(4) = 8",
            "rule(5) = 0");
        Bench.edge("6: 2 WORDS: all", "'par:" + "i ".repeat(80) + ";' = 1", "rule(2) = 80", "rule(3) = 1", "rule(4) = 4");
        Bench.edge("6: 3 WORDS of which there is no like one ahead: none is like", "'par:a b ab ba aa aab abb;' = 1", "rule(2) = 7", "rule(3) = 7");
        Bench.edge("6: 3 WORDS of which there is no like one ahead: all are like", "'par:ab ab;par:ab;' = 2", "rule(2) = 3", "rule(3) = 1");
        Bench.edge("6: 3 the last letter of six tells them apart", "'par:abcdef abcdeg abcdef abcde;' = 1", "rule(3) = 3", "word(0, 0, 2) = 2",
            "word(0, 1, 2) = 1", "word(0, 3, 2) = 1");
        Bench.edge("6: 3 the first letter of six tells them apart", "'par:abcdef bbcdef;' = 1", "rule(3) = 2", "word(0, 0, 2) = 1");
        Bench.edge("6: 5 empty ones: none, some", "'shape s 60 0 1;par s 5:a;par:b;' = 3", "rule(4) = 2", "rule(5) = 0", "set(13, 1) = 0",
            "rule(4) = 6", "rule(5) = 4", "set(13, 2) = 1", "rule(4) = 2", "rule(5) = 0");
        Bench.edge("6: 4, 5 there is none behind the last PARAGRAPH", "'set policy 1;shape s 60 0 1;par s 5:a;' = 3", "rule(4) = 1", "rule(5) = 0");
        Bench.edge("6: 6 CLASHES: none, some", "'shape s 60 0 1;par s 2:a;par:b;par:c;' = 4", "rule(6) = 1", "drop(0, 0, 3) = 2", "rule(6) = 2",
            "drop(0, 0, 5) = 3", "rule(6) = 2", "drop(0, NONE, 0) = 5", "rule(6) = 0");
        Bench.edge("6: 7 LINES that are OVER: none, all", "'set measure 20;shape s 13 0 60;par s 2:i i;par:a;' = 4", "rule(7) = 2", "rule(4) = 3",
            "drop(0, NONE, 0) = 2", "rule(7) = 0");
        Bench.edge("6: 6 a CLASH that is there no more", "'shape s 60 0 1;par s 5:a;par:b;' = 3", "rule(6) = 1", "join(0) = 2", "rule(4) = 1", "rule(6) = 0");
        Bench.edge("6: 7 a LINE that is OVER no more", "'set measure 20;shape s 13 0 60;par:a;par s 2:i;' = 4", "rule(7) = 1", "join(0) = 2", "rule(4) = 1", "rule(7) = 0");
        Bench.edge("6: 8 to 13 the settings", "'set measure 99;set leading 20;set cap 19;set gap 9;set mode 1;set policy 2;' = 6", "rule(8) = 99",
            "rule(9) = 20", "rule(10) = 19", "rule(11) = 9", "rule(12) = 1", "rule(13) = 2");
        Bench.edge("6: 14 bytes on THE TAPE", "rule(14) = 0", "feed(97) = 1", "rule(14) = 1", "tape '" + "a".repeat(399) + "'", "rule(14) = 400",
            "end(7) = 400", "rule(14) = 7", "text() = -10", "rule(14) = 0");
        Bench.edge("6: 15 IMAGES", "rule(15) = 0", "keep(1) = 0", "rule(15) = 1", "keep(1) = 1", "rule(15) = 1", "keep(0) = 0", "rule(15) = 2",
            "back(0) = 0", "rule(15) = 2", "'' = 0", "rule(15) = 0", "keep(0) = 0", "rule(15) = 1");
    }

    private static void shapes() {
        Bench.edge("7: there is no such SHAPE", "shape(0, 0) = BAD", "'" + SIX + "' = 6", "shape(6, 0) = BAD", "shape(-1, 0) = BAD",
            "shape(NONE, 0) = BAD", "shape(LEAST, 0) = BAD", "shape(MOST, 0) = BAD", "shape(5, 0) = 26", "shape(0, 0) = 1");
        Bench.edge("7: BAD (what)", "'" + SIX + "' = 6", "shape(0, -1) = BAD", "shape(0, 4) = BAD", "shape(0, LEAST) = BAD", "shape(0, MOST) = BAD",
            "shape(5, 0) = 26", "shape(5, 1) = 60", "shape(5, 2) = 1", "shape(5, 3) = 60");
        Bench.edge("7: 3 its greatest EXTENT", "'shape a 9 0 0;shape b 9 0 7 1 6;shape c 9 0 6 1 7;shape d 9 0 1 1 9 2 3;' = 4", "shape(0, 3) = 0",
            "shape(1, 3) = 7", "shape(2, 3) = 7", "shape(3, 3) = 9");
        Bench.edge("7: 3 its greatest EXTENT, not that of the next SHAPE", "'shape a 9 0 1 1 2 2 3 3 4 4 5 5 6 6 7 7 8;shape b 9 0 60;' = 2", "shape(0, 3) = 8",
            "shape(1, 3) = 60");
        String eight = "'shape a 60 0 1 1 2 2 3 3 4 4 5 5 6 6 7 59 60;shape b 1 0 9;' = 2";
        Bench.edge("8: BAD: g", eight, "step(2, 0, 0) = BAD", "step(-1, 0, 0) = BAD", "step(NONE, 0, 0) = BAD", "step(LEAST, 0, 0) = BAD",
            "step(MOST, 0, 0) = BAD", "step(1, 0, 1) = 9");
        Bench.edge("8: BAD: i below 0", eight, "step(0, -1, 0) = BAD", "step(0, LEAST, 0) = BAD", "step(1, -1, 1) = BAD", "step(1, NONE, 1) = BAD");
        Bench.edge("8: BAD: what", eight, "step(0, 0, -1) = BAD", "step(0, 0, 2) = BAD", "step(0, 0, LEAST) = BAD", "step(0, 0, MOST) = BAD");
        Bench.edge("8: NONE: there are not so many", eight, "step(0, 7, 0) = 59", "step(0, 7, 1) = 60", "step(0, 8, 0) = NONE", "step(0, MOST, 1) = NONE",
            "step(1, 0, 0) = 0", "step(1, 1, 0) = NONE", "step(1, 1, 1) = NONE", "step(1, MOST, 0) = NONE");
        Bench.edge("8: BAD is ahead of NONE", eight, "step(1, 1, 2) = BAD", "step(1, MOST, -1) = BAD", "step(2, MOST, 0) = BAD");
    }

    private static void paragraphs() {
        String two = "'shape s 60 0 1;par s 5:a b;par:c;' = 3";
        Bench.edge("9: there is no such PARAGRAPH", "par(0, 0) = BAD", two, "par(2, 0) = BAD", "par(-1, 0) = BAD", "par(NONE, 4) = BAD",
            "par(LEAST, 4) = BAD", "par(MOST, 9) = BAD", "par(1, 0) = 1");
        Bench.edge("9: BAD (what)", two, "par(0, -1) = BAD", "par(0, 10) = BAD", "par(0, LEAST) = BAD", "par(0, MOST) = BAD", "par(1, 10) = BAD",
            "par(0, 9) = 0");
        Bench.edge("9: all of eight", "'" + "par:a;".repeat(8) + "' = 8", "par(7, 0) = 1", "par(7, 4) = 7", "par(7, 5) = 1", "par(8, 0) = BAD");
        Bench.edge("9: 1 its SHAPE (NONE), 2 DROP, 3 H (0: no SHAPE)", two, "par(0, 1) = 0", "par(0, 2) = 5", "par(0, 3) = 37", "par(1, 1) = NONE",
            "par(1, 2) = 0", "par(1, 3) = 0");
        Bench.edge("9: 4 its first LINE, 5 LINES", two, "par(0, 4) = 0", "par(0, 5) = 1", "par(1, 4) = 1", "par(1, 5) = 1", "set(13, 1) = 0",
            "par(1, 4) = 5", "par(1, 5) = 1", "par(0, 5) = 1");
        Bench.edge("9: 6 CLASHES, 7 the first LINE of its that is one (NONE)", two, "par(0, 6) = 0", "par(0, 7) = NONE", "par(1, 6) = 1",
            "par(1, 7) = 1", "drop(0, NONE, 0) = 5", "par(1, 6) = 0", "par(1, 7) = NONE");
        // only the middle LINE of the second one is reached: EXTENT 0 above it, GAP 0
        Bench.edge("9: 7 the first LINE of its, not of all, and not its first one",
            "'set measure 20;set gap 0;set leading 4;set cap 4;shape s 12 0 0 8 5;par s 3:a;par:mmmmmm mmmmmm mmmmmm;' = 7",
            "par(1, 4) = 1", "par(1, 5) = 3", "par(1, 6) = 1", "par(1, 7) = 2", "line(1, 7) = 0", "line(2, 7) = 1", "line(3, 7) = 0");
        // ROOM 0 beside the letter: LINES 0 and 1 are OVER, LINE 2 is not
        Bench.edge("9: 8 LINES that are OVER", "'set measure 20;shape s 13 0 60;par s 2:i i i;par:i;' = 4", "par(0, 5) = 3", "par(0, 8) = 2",
            "par(1, 8) = 0");
        Bench.edge("9: 8 of it, not of the next one", "'set measure 20;shape s 13 0 60;par:i;par s 2:i;par:i;' = 5", "par(0, 8) = 0", "par(1, 8) = 1", "par(2, 8) = 0");
        Bench.edge("9: 6, 8 LINES that are there no more", "'set measure 20;shape s 13 0 60;par s 2:i i i;par s 2:a;par:b;' = 5", "par(2, 6) = 1", "rule(6) = 1", "rule(7) = 3",
            "join(1) = 2", "rule(4) = 5", "drop(0, NONE, 0) = 2", "drop(1, NONE, 0) = 2", "rule(4) = 2", "rule(6) = 0", "rule(7) = 0", "par(1, 6) = 0", "par(1, 8) = 0");
        Bench.edge("9: 9 (of all but the last): one LINE", "'par:a;' = 1", "par(0, 9) = 0");
        Bench.edge("9: 9 (of all but the last): two", "'set measure 20;par:mmmmmm aa;' = 2", "par(0, 5) = 2", "par(0, 9) = 4");
        Bench.edge("9: 9 (of all but the last): three", "'set measure 20;par:mmmmmm aaaa aaaa aa;' = 2", "par(0, 5) = 3", "par(0, 9) = 13");
        Bench.edge("9: 9 SLACK of what is OVER is 0", "'set measure 20;shape s 13 0 60;par s 2:i i mmmmmm a;' = 3", "par(0, 5) = 4", "par(0, 9) = 4");
    }

    private static void words() {
        String some = "'par:a bc;par:abcdef bc bc;' = 2";
        Bench.edge("10: BAD: p", "word(0, 0, 0) = BAD", some, "word(2, 0, 0) = BAD", "word(-1, 0, 0) = BAD", "word(NONE, 0, 0) = BAD",
            "word(LEAST, 0, 0) = BAD", "word(MOST, 0, 0) = BAD", "word(1, 0, 0) = 6");
        Bench.edge("10: BAD: i below 0", some, "word(0, -1, 0) = BAD", "word(1, -1, 3) = BAD", "word(0, NONE, 0) = BAD", "word(0, LEAST, 0) = BAD");
        Bench.edge("10: BAD: what", some, "word(0, 0, -1) = BAD", "word(0, 0, 5) = BAD", "word(0, 0, LEAST) = BAD", "word(0, 0, MOST) = BAD");
        Bench.edge("10: NONE: there are not so many", some, "word(0, 1, 0) = 2", "word(0, 2, 0) = NONE", "word(0, 2, 1) = NONE", "word(0, 2, 2) = NONE",
            "word(0, 2, 3) = NONE", "word(0, 2, 4) = NONE", "word(0, MOST, 0) = NONE", "word(1, 2, 0) = 2", "word(1, 3, 0) = NONE");
        Bench.edge("10: BAD is ahead of NONE", some, "word(0, 2, 5) = BAD", "word(0, MOST, -1) = BAD", "word(2, MOST, 0) = BAD");
        Bench.edge("10: all of eighty", "'par:" + "a ".repeat(79) + "b;' = 1", "word(0, 79, 0) = 1", "word(0, 79, 2) = 1", "word(0, 78, 2) = 79",
            "word(0, 80, 0) = NONE", "letter(0, 79, 0) = 2", "letter(0, 80, 0) = NONE");
        Bench.edge("10: 2 how many like it there are in all", some, "word(0, 0, 2) = 1", "word(0, 1, 2) = 3", "word(1, 0, 2) = 1", "word(1, 1, 2) = 3",
            "word(1, 2, 2) = 3");
        // a LINE of 20: mmmmmm i fill it, bb begins the next one
        Bench.edge("10: 3 its LINE, 4 where it begins there", "'set measure 20;par:mmmmmm i bb c;par:d;' = 3", "word(0, 0, 3) = 0", "word(0, 0, 4) = 0",
            "word(0, 1, 3) = 0", "word(0, 1, 4) = 19", "word(0, 2, 3) = 1", "word(0, 2, 4) = 0", "word(0, 3, 3) = 1", "word(0, 3, 4) = 5",
            "word(1, 0, 3) = 2", "word(1, 0, 4) = 0");
        Bench.edge("10: 4 (INDENT, and what is ahead of it)", "'shape s 60 0 1;par s 2:a bb c;' = 2", "word(0, 0, 4) = 2", "word(0, 1, 4) = 5",
            "word(0, 2, 4) = 10");
        Bench.edge("10: 4 of a WORD that is OVER", "'set measure 20;shape s 13 0 60;par s 2:i i i;' = 3", "word(0, 0, 4) = 61", "word(0, 1, 4) = 61",
            "word(0, 2, 4) = 0");
        Bench.edge("10: 3 behind empty LINES", "'set policy 1;shape s 60 0 1;par s 5:a;par:b;' = 4", "word(1, 0, 3) = 5");
    }

    private static void letters() {
        String some = "'par:a bc;par:abcdez;' = 2";
        Bench.edge("11: BAD: p", "letter(0, 0, 0) = BAD", some, "letter(2, 0, 0) = BAD", "letter(-1, 0, 0) = BAD", "letter(LEAST, 0, 0) = BAD",
            "letter(MOST, 0, 0) = BAD");
        Bench.edge("11: BAD: i below 0", some, "letter(0, -1, 0) = BAD", "letter(1, -1, 0) = BAD", "letter(0, LEAST, 0) = BAD", "letter(0, NONE, 0) = BAD");
        Bench.edge("11: BAD: k below 0", some, "letter(0, 0, -1) = BAD", "letter(0, 0, NONE) = BAD", "letter(0, 0, LEAST) = BAD");
        Bench.edge("11: NONE: there are not so many", some, "letter(0, 0, 0) = 1", "letter(0, 0, 1) = NONE", "letter(0, 1, 1) = 3", "letter(0, 1, 2) = NONE",
            "letter(0, 2, 0) = NONE", "letter(0, MOST, 0) = NONE", "letter(0, 0, MOST) = NONE", "letter(1, 0, 5) = 26", "letter(1, 0, 6) = NONE",
            "letter(1, 0, 32) = NONE", "letter(1, 1, 0) = NONE");
        Bench.edge("11: BAD is ahead of NONE", some, "letter(0, 2, -1) = BAD", "letter(0, MOST, LEAST) = BAD", "letter(2, MOST, 0) = BAD");
    }

    /** The 26 letters, one WORD each: their WIDTHS and numbers, and that of six of each. */
    private static void widths() {
        for (char c = 'a'; c <= 'z'; c++) {
            int width = "ijlt".indexOf(c) >= 0 ? 1 : "mw".indexOf(c) >= 0 ? 3 : 2;
            List<String> steps = new ArrayList<>(List.of("'par:" + c + " " + String.valueOf(c).repeat(6) + " a" + c + ";' = 1"));
            steps.add("word(0, 0, 1) = " + width);
            steps.add("word(0, 1, 1) = " + 6 * width);
            steps.add("word(0, 2, 1) = " + (2 + width));
            steps.add("letter(0, 0, 0) = " + (c - 'a' + 1));
            steps.add("letter(0, 1, 5) = " + (c - 'a' + 1));
            steps.add("line(0, 5) = " + (width + 1 + 6 * width + 1 + 2 + width));
            Bench.edge("WIDTH of a letter: " + c, steps.toArray(new String[0]));
        }
    }

    public static void main(String[] args) {
        rules();
        shapes();
        paragraphs();
        words();
        letters();
        widths();
        Bench.finish();
    }
}
