import java.util.ArrayList;
import java.util.List;

/**
 * "What is refused changes nothing (but THE TAPE, as told)": every way to be refused, in states that have
 * something of each kind to lose: letters, drops, settings, two images unlike each other and unlike what
 * there is, bytes on the tape, a fault.
 */
public final class RefusedTest {
    private static final String[] RICH = {
        "'shape s 60 0 1;shape t 9 0 9 4 2;par s 2:a bb c;par:d;par t 3:e f;' = 5", "keep(0) = 0", "set(8, 30) = 40", "set(12, 1) = 0", "cut(0, 2) = 4",
        "drop(1, 1, 4) = 0", "keep(1) = 0", "'par:^' = fault 2", "move(0, 1, 3, NONE) = 3", "set(13, 2) = 0", "set(11, 3) = 1", "tape 'set gap 9;par:x;'"};
    // eight PARAGRAPHS with letters, the images with fewer
    private static final String[] FULL = {
        "'set policy 1;shape s 60 0 1;shape t 9 0 9 4 2;par s 2:a b;par t 5:c d;par s 4:e;par t 3:f g;par s 2:h;par t 2:i;par:j k;' = 10", "keep(0) = 0",
        "join(0) = 4", "keep(1) = 0", "cut(0, 2) = 7", "drop(1, 1, 3) = 0", "cut(6, 1) = 8", "drop(7, 0, 4) = 0", "'^9' = fault 2", "tape 'par:x;'"};
    // nothing kept, nothing told
    private static final String[] BARE = {"set(8, 30) = 40", "set(13, 1) = 0", "tape 'par:x;'"};

    private static void refused(String[] state, String sentence, String... steps) {
        List<String> all = new ArrayList<>(List.of(state));
        all.addAll(List.of(steps));
        Bench.edge("what is refused changes nothing: " + sentence, all.toArray(new String[0]));
    }

    private static void theText() {
        refused(RICH, "feed", "feed(-1) = BAD", "feed(128) = BAD", "feed(LEAST) = BAD", "feed(MOST) = BAD", "rule(14) = 16");
        refused(RICH, "feed FULL", "tape '" + " ".repeat(384) + "'", "feed(59) = FULL", "feed(0) = FULL", "feed(128) = BAD", "rule(14) = 400");
        refused(RICH, "end", "end(17) = BAD", "end(-1) = BAD", "end(400) = BAD", "end(LEAST) = BAD", "end(MOST) = BAD", "rule(14) = 16");
        // THE TAPE has 16 bytes already: the faults are behind them
        refused(RICH, "text, fault 1", "tape '='", "text() = -26", "fault() = 1", "rule(11) = 3");
        refused(RICH, "text, fault 2", "tape 'par:y'", "text() = -31", "fault() = 2", "rule(11) = 3");
        refused(RICH, "text, fault 3", "tape 'par:abcdefg;'", "text() = -30", "fault() = 3", "rule(11) = 3");
        refused(RICH, "text, fault 4", "tape 'set gap 1;'", "text() = -30", "fault() = 4", "rule(11) = 3");
        refused(RICH, "text, fault 5", "tape 'par:y;par:y;par:y;par:y;par:y;par:y;par:y;par:y;'", "text() = -68", "fault() = 5", "rule(11) = 3");
        refused(FULL, "text, all told again ahead of the fault", "end(0) = 6",
            "'set measure 99;set policy 2;shape s 9 0 9;shape q 1 0 1;par s 5:zz;par q 2:y;par:x w;^z' = fault 2", "rule(8) = 40", "rule(13) = 1", "shape(0, 1) = 60");
        refused(BARE, "text, nothing was told", "tape 'shape a 1 0 0;set measure 50;?'", "text() = -45", "rule(0) = 0", "rule(1) = 0", "rule(8) = 30");
    }

    private static void questions() {
        refused(RICH, "rule, shape, step", "rule(-1) = BAD", "rule(16) = BAD", "shape(2, 0) = BAD", "shape(0, 4) = BAD", "step(2, 0, 0) = BAD", "step(0, -1, 0) = BAD",
            "step(0, 1, 0) = NONE", "step(1, 2, 1) = NONE");
        refused(RICH, "par, word, letter", "par(4, 0) = BAD", "par(0, 10) = BAD", "par(0, 7) = NONE", "par(2, 1) = NONE", "word(4, 0, 0) = BAD", "word(0, 1, 0) = NONE",
            "word(0, 0, 5) = BAD", "letter(0, 0, 1) = NONE", "letter(0, 0, -1) = BAD");
        refused(RICH, "drawn, reach, line, sign", "drawn(2, 0, 0) = NONE", "drawn(0, 1, 0) = NONE", "drawn(0, 0, 3) = BAD", "reach(2, 0) = NONE", "reach(0, -1) = BAD",
            "line(-1, 0) = BAD", "line(0, 8) = BAD", "line(1, 0) = NONE", "sign(0, 99) = NONE", "sign(0, -1) = BAD");
        refused(RICH, "best, tried", "best(2) = NONE", "best(4) = BAD", "tried(2, 2) = NONE", "tried(0, 1) = BAD", "tried(0, 6) = BAD", "tried(4, 2) = BAD");
        // they try other drops: what is told must be as it was
        refused(RICH, "what is asked changes nothing, too", "best(1) = 2", "par(1, 2) = 4", "tried(1, 5) = 9", "par(1, 2) = 4", "rule(4) = 8", "cut(9, 9) = BAD");
    }

    private static void byHand() {
        refused(RICH, "set", "set(7, 20) = BAD", "set(14, 1) = BAD", "set(8, 19) = BAD", "set(8, 100) = BAD", "set(9, 3) = BAD", "set(9, 21) = BAD", "set(10, 1) = BAD",
            "set(10, 21) = BAD", "set(11, -1) = BAD", "set(11, 10) = BAD", "set(12, -1) = BAD", "set(12, 2) = BAD", "set(13, -1) = BAD", "set(13, 3) = BAD");
        refused(RICH, "drop", "drop(4, 0, 2) = BAD", "drop(-1, NONE, 0) = BAD", "drop(0, 2, 3) = BAD", "drop(0, -1, 3) = BAD", "drop(0, 1, 1) = BAD", "drop(0, 1, 6) = BAD",
            "drop(0, 1, 0) = BAD", "drop(0, NONE, 3) = BAD", "drop(2, NONE, 2) = BAD", "drop(2, 1, 0) = BAD");
        refused(RICH, "cut", "cut(4, 1) = BAD", "cut(-1, 1) = BAD", "cut(3, 0) = BAD", "cut(3, 3) = BAD", "cut(0, 1) = BAD", "cut(3, -1) = BAD", "cut(3, MOST) = BAD");
        refused(FULL, "cut FULL", "cut(0, 1) = FULL", "cut(1, 1) = FULL", "cut(3, 1) = FULL", "cut(2, 1) = BAD", "cut(7, 1) = BAD", "cut(8, 1) = BAD");
        refused(RICH, "join", "join(3) = NONE", "join(4) = BAD", "join(-1) = BAD", "join(LEAST) = BAD", "join(MOST) = BAD");
        refused(FULL, "join of the last of eight", "join(7) = NONE", "join(8) = BAD");
        refused(RICH, "move BAD", "move(4, 0, 0, 0) = BAD", "move(3, 3, 0, 0) = BAD", "move(3, -1, 0, 0) = BAD", "move(3, 0, 4, 0) = BAD", "move(3, 0, 4, NONE) = BAD",
            "move(3, 0, 0, 1) = BAD", "move(3, 0, 0, -1) = BAD", "move(3, 0, 3, 3) = BAD");
        refused(RICH, "move STATE", "move(0, 0, 3, 0) = STATE", "move(0, 0, 3, NONE) = STATE", "move(0, 0, 0, NONE) = STATE", "move(0, 0, 0, 0) = STATE",
            "move(3, 1, 3, 1) = STATE", "move(1, 0, 0, 0) = STATE");
    }

    private static void images() {
        refused(RICH, "keep", "keep(-1) = BAD", "keep(2) = BAD", "keep(NONE) = BAD", "keep(LEAST) = BAD", "keep(MOST) = BAD", "rule(15) = 2");
        refused(RICH, "back", "back(-1) = BAD", "back(2) = BAD", "back(LEAST) = BAD", "back(MOST) = BAD", "rule(15) = 2");
        refused(BARE, "back STATE", "back(0) = STATE", "back(1) = STATE", "keep(1) = 0", "back(0) = STATE", "set(8, 31) = 30", "back(0) = STATE", "rule(8) = 31");
    }

    public static void main(String[] args) {
        theText();
        questions();
        byHand();
        images();
        Bench.finish();
    }
}
