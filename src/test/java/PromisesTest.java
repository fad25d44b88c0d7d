/** Each promise by hand-made runs: ordinary inputs, the edges that the document names, wrong inputs. */
public final class PromisesTest {
    private static final int BAD = -1, STATE = -2, FULL = -3, NONE = -4;
    private static final int LEAST = Integer.MIN_VALUE, MOST = Integer.MAX_VALUE;
    private static int wrong = 0;
    private static int promise = 0;

    private static void due(String call, int got, int want) {
        if (got != want) {
            wrong++;
            System.out.println("promise " + promise + ": " + call + " answered " + got + ", due is " + want);
        }
    }

    private static void feedAll(DropCapitals x, String s) {
        for (int i = 0; i < s.length(); i++) x.feed(s.charAt(i));
    }

    /** A new object that has taken a text. */
    private static DropCapitals told(String s) {
        DropCapitals x = new DropCapitals();
        feedAll(x, s);
        int answer = x.text();
        if (answer < 0) due("text() of \"" + s + "\"", answer, 0);
        return x;
    }

    private static void faultDue(String s, int kind, int place) {
        DropCapitals x = told("shape z 3 0 2; par z 2: old one;");
        x.keep(0);
        feedAll(x, s);
        due("text() of \"" + s + "\"", x.text(), -10 - place);
        due("fault() of \"" + s + "\"", x.fault(), kind);
        due("bytes behind the fault", x.rule(14), 0);
        due("shapes behind the fault", x.shape(0, 0), 26);
        due("words behind the fault", x.rule(2), 2);
        due("measure behind the fault", x.rule(8), 40);
        due("images behind the fault", x.rule(15), 1);
    }

    private static void linesDue(String s, int lines) {
        DropCapitals x = new DropCapitals();
        feedAll(x, s);
        due("text() of \"" + s + "\"", x.text(), lines);
        due("fault() of \"" + s + "\"", x.fault(), 0);
    }

    private static void aNewObject() {
        promise = 1;
        DropCapitals x = new DropCapitals();
        int[] first = {0, 0, 0, 0, 0, 0, 0, 0, 40, 8, 5, 1, 0, 0, 0, 0};
        for (int w = 0; w < 16; w++) due("rule(" + w + ")", x.rule(w), first[w]);
        due("fault()", x.fault(), 0);
        due("par(0, 0)", x.par(0, 0), BAD);
        due("shape(0, 0)", x.shape(0, 0), BAD);
        due("line(0, 0)", x.line(0, 0), BAD);
        due("best(0)", x.best(0), BAD);
    }

    private static void feedAndEnd() {
        promise = 2;
        DropCapitals x = new DropCapitals();
        due("feed(-1)", x.feed(-1), BAD);
        due("feed(128)", x.feed(128), BAD);
        due("feed(least)", x.feed(LEAST), BAD);
        due("feed(0)", x.feed(0), 1);
        due("feed(127)", x.feed(127), 2);
        for (int n = 3; n <= 400; n++) due("feed(32)", x.feed(32), n);
        due("feed(32)", x.feed(32), FULL);
        due("feed(128)", x.feed(128), BAD);
        due("rule(14)", x.rule(14), 400);
        promise = 3;
        due("end(401)", x.end(401), BAD);
        due("end(-1)", x.end(-1), BAD);
        due("end(400)", x.end(400), 400);
        due("end(0)", x.end(0), 400);
        due("end(1)", x.end(1), BAD);
        due("end(0)", x.end(0), 0);
        feedAll(x, "par: ab;gap");
        due("end(8)", x.end(8), 11);
        due("rule(14)", x.rule(14), 8);
        due("text()", x.text(), 1);
    }

    private static void textThatIsTaken() {
        promise = 4;
        linesDue("", 0);
        linesDue("    ", 0);
        linesDue("set gap1;", 1);
        linesDue("  set  measure  99 ;shape a1 0 60;par a2:b;par:c ; ", 4);
        linesDue("shape a 60 0 0 1 1 2 2 3 3 4 4 5 5 6 6 59 60;", 1);
        linesDue("par: set par shape a ab abcdef;", 1);
        linesDue("set cap 02;set leading 04;set mode 1;set policy 2;set gap 0;set measure 20;", 6);
        DropCapitals x = told("set gap 3; shape a 9 0 4 3 8; par a 3: aa bb; par: cc;");
        x.keep(1);
        feedAll(x, "set cap 7;");
        due("gap by hand", x.set(11, 4), 3);
        due("text()", x.text(), 1);
        due("rule(14)", x.rule(14), 0);
        due("rule(0)", x.rule(0), 0);
        due("rule(1)", x.rule(1), 0);
        due("rule(2)", x.rule(2), 0);
        due("gap stays", x.rule(11), 4);
        due("cap is told", x.rule(10), 7);
        due("images are gone", x.rule(15), 0);
        due("back(1)", x.back(1), STATE);
    }

    private static void faultsOfTokens() {
        promise = 5;
        faultDue("?", 1, 0);
        faultDue("  Set", 1, 2);
        faultDue("set gap 123;", 1, 8);
        faultDue("set gap x{", 2, 8);
        faultDue("set gap 1{", 1, 9);
        faultDue("123", 1, 0);
        faultDue("12", 2, 0);
        faultDue("par: ab\tcd;", 1, 7);
        faultDue("set gap 1", 2, 9);
        faultDue("set gap 1  ", 2, 11);
        faultDue("set", 2, 3);
        faultDue("sets gap 1;", 2, 0);
        faultDue("set gaps 1;", 2, 4);
        faultDue("set gap gap;", 2, 8);
        faultDue("set gap 1:", 2, 9);
        faultDue(";", 2, 0);
        faultDue("set gap 1;;", 2, 10);
        faultDue("set 5 1;", 2, 4);
    }

    private static void faultsOfShapes() {
        promise = 5;
        faultDue("shape ab 5 0 1;", 2, 6);
        faultDue("shape 5 0 1;", 2, 6);
        faultDue("shape a 5;", 2, 9);
        faultDue("shape a 5 0;", 2, 11);
        faultDue("shape a 5 0 1 2;", 2, 15);
        faultDue("shape a 0 0 1;", 3, 8);
        faultDue("shape a 61 0 1;", 3, 8);
        faultDue("shape a 5 1 1;", 3, 10);
        faultDue("shape a 5 0 61;", 3, 12);
        faultDue("shape a 5 0 1 0 1;", 3, 14);
        faultDue("shape a 5 0 1 3 1 3 1;", 3, 18);
        faultDue("shape a 5 0 1 5 1;", 3, 14);
        faultDue("shape a 9 0 0 1 0 2 0 3 0 4 0 5 0 6 0 7 0 8 0;", 2, 42);
        faultDue("shape a 9 0 0 1 0 2 0 3 0 4 0 5 0 6 0 7 0 888;", 1, 42);
        faultDue("shape a 5 0 1;shape a 5 0 1;", 4, 20);
        faultDue("shape a 1 0 0;shape b 1 0 0;shape c 1 0 0;shape d 1 0 0;shape e 1 0 0;shape f 1 0 0;shape a", 5, 84);
    }

    private static void faultsOfSettingsAndPars() {
        promise = 5;
        int[][] bounds = {{19, 100}, {3, 21}, {1, 21}, {0, 10}, {0, 2}, {0, 3}};
        String[] names = {"measure", "leading", "cap", "gap", "mode", "policy"};
        for (int i = 0; i < 6; i++) {
            String head = "set " + names[i] + " ";
            if (i < 3) faultDue(head + bounds[i][0] + ";", 3, head.length());
            faultDue(head + bounds[i][1] + ";", bounds[i][1] > 99 ? 1 : 3, head.length());
            int fine = i < 3 ? 20 : 1;
            faultDue(head + fine + ";" + head + fine + ";", 4, (head + fine + ";set ").length());
        }
        faultDue("par", 2, 3);
        faultDue("par ab;", 2, 4);
        faultDue("par z 2: a;", 2, 4);
        faultDue("par: a;par a 2: b;shape a 1 0 0;", 2, 11);
        faultDue("shape a 1 0 0;par aa 2: b;", 2, 18);
        faultDue("shape a 1 0 0;par a: b;", 2, 19);
        faultDue("shape a 1 0 0;par a 1: b;", 3, 20);
        faultDue("shape a 1 0 0;par a 6: b;", 3, 20);
        faultDue("shape a 1 0 0;par a 0: b;", 3, 20);
        faultDue("shape a 1 0 0;par a 2 b;", 2, 22);
        faultDue("par 2: a;", 2, 4);
        faultDue("par: a 2;", 2, 7);
        faultDue("par: a : b;", 2, 7);
        faultDue("par: abcdefg;", 3, 5);
        faultDue("par:a;par:a;par:a;par:a;par:a;par:a;par:a;par:a;par?", 5, 48);
        faultDue("par:" + "a ".repeat(80) + "b;", 5, 164);
        faultDue("par:" + "a ".repeat(80) + "abcdefg;", 3, 164);
        faultDue("par:" + "a ".repeat(79) + "a;par:b;", 5, 168);
        linesDue("par:" + "a ".repeat(80) + ";", 1);
    }

    private static void rules() {
        promise = 6;
        DropCapitals x = told("set measure 20;shape q 4 0 30;par q 2: ab cd ab; par q 5: cd e; par: abc;");
        // each letter is 98 or more wide: every line beside one is over
        due("rule(0)", x.rule(0), 1);
        due("rule(1)", x.rule(1), 3);
        due("rule(2)", x.rule(2), 6);
        due("rule(3)", x.rule(3), 4);
        due("rule(4)", x.rule(4), 6);
        due("rule(5)", x.rule(5), 0);
        due("rule(6)", x.rule(6), 1);
        due("rule(7)", x.rule(7), 4);
        x.feed(32);
        due("rule(14)", x.rule(14), 1);
        x.keep(1);
        due("rule(15)", x.rule(15), 1);
        x.keep(0);
        x.keep(0);
        due("rule(15)", x.rule(15), 2);
        x.set(13, 1);
        due("rule(4)", x.rule(4), 9);
        due("rule(5)", x.rule(5), 3);
        due("rule(6)", x.rule(6), 0);
        due("rule(16)", x.rule(16), BAD);
        due("rule(-1)", x.rule(-1), BAD);
        due("rule(most)", x.rule(MOST), BAD);
    }

    private static void shapesAndSteps() {
        DropCapitals x = told("shape z 60 0 5 7 60 59 0; shape a 1 0 3;");
        promise = 7;
        due("shape(0, 0)", x.shape(0, 0), 26);
        due("shape(0, 1)", x.shape(0, 1), 60);
        due("shape(0, 2)", x.shape(0, 2), 3);
        due("shape(0, 3)", x.shape(0, 3), 60);
        due("shape(1, 0)", x.shape(1, 0), 1);
        due("shape(1, 3)", x.shape(1, 3), 3);
        due("shape(2, 0)", x.shape(2, 0), BAD);
        due("shape(-1, 0)", x.shape(-1, 0), BAD);
        due("shape(0, 4)", x.shape(0, 4), BAD);
        due("shape(0, -1)", x.shape(0, -1), BAD);
        promise = 8;
        due("step(0, 1, 0)", x.step(0, 1, 0), 7);
        due("step(0, 1, 1)", x.step(0, 1, 1), 60);
        due("step(0, 2, 0)", x.step(0, 2, 0), 59);
        due("step(0, 3, 0)", x.step(0, 3, 0), NONE);
        due("step(1, 0, 1)", x.step(1, 0, 1), 3);
        due("step(1, most, 1)", x.step(1, MOST, 1), NONE);
        due("step(0, 3, 2)", x.step(0, 3, 2), BAD);
        due("step(0, -1, 0)", x.step(0, -1, 0), BAD);
        due("step(2, 0, 0)", x.step(2, 0, 0), BAD);
    }

    private static void pars() {
        promise = 9;
        DropCapitals x = told("set measure 20;shape a 10 0 4;par a 3: aa; par: aa bb cc dd mmmmmm www j;");
        int[] first = {1, 0, 3, 21, 0, 1, 0, NONE, 0, 0};
        // aa bb cc dd: 19 of 20; mmmmmm: 18; www j: 11, the last one
        int[] second = {7, NONE, 0, 0, 1, 3, 2, 1, 0, 1 + 4};
        for (int w = 0; w < 10; w++) {
            due("par(0, " + w + ")", x.par(0, w), first[w]);
            due("par(1, " + w + ")", x.par(1, w), second[w]);
        }
        due("par(2, 0)", x.par(2, 0), BAD);
        due("par(-1, 0)", x.par(-1, 0), BAD);
        due("par(0, 10)", x.par(0, 10), BAD);
        due("par(0, -1)", x.par(0, -1), BAD);
        x.set(13, 2);
        // the letter is 9 wide, 1 of gap: room 10 on lines 1 and 2
        due("par(1, 5)", x.par(1, 5), 4);
        due("par(1, 6)", x.par(1, 6), 0);
        due("par(1, 7)", x.par(1, 7), NONE);
        due("par(1, 9)", x.par(1, 9), 1 + 1 + 4);
    }

    private static void wordsAndLetters() {
        promise = 10;
        DropCapitals x = told("set measure 20;shape a 10 0 4;par a 2: jilt mw a xyzabc; par: a jilt aj;");
        int[] first = {4, 4, 2, 0, 7};
        int[] second = {2, 6, 1, 0, 12};
        int[] third = {1, 2, 2, 1, 7};
        for (int w = 0; w < 5; w++) {
            due("word(0, 0, " + w + ")", x.word(0, 0, w), first[w]);
            due("word(0, 1, " + w + ")", x.word(0, 1, w), second[w]);
            due("word(0, 2, " + w + ")", x.word(0, 2, w), third[w]);
        }
        due("word(1, 2, 4)", x.word(1, 2, 4), 8);
        due("word(1, 2, 2)", x.word(1, 2, 2), 1);
        due("word(0, 4, 0)", x.word(0, 4, 0), NONE);
        due("word(0, most, 0)", x.word(0, MOST, 0), NONE);
        due("word(0, -1, 0)", x.word(0, -1, 0), BAD);
        due("word(0, 4, 5)", x.word(0, 4, 5), BAD);
        due("word(0, 0, -1)", x.word(0, 0, -1), BAD);
        due("word(2, 0, 0)", x.word(2, 0, 0), BAD);
        promise = 11;
        int[] letters = {24, 25, 26, 1, 2, 3, NONE};
        for (int k = 0; k < 7; k++) due("letter(0, 3, " + k + ")", x.letter(0, 3, k), letters[k]);
        due("letter(1, 2, 1)", x.letter(1, 2, 1), 10);
        due("letter(1, 3, 0)", x.letter(1, 3, 0), NONE);
        due("letter(0, 0, most)", x.letter(0, 0, MOST), NONE);
        due("letter(0, 9, -1)", x.letter(0, 9, -1), BAD);
        due("letter(0, -1, 0)", x.letter(0, -1, 0), BAD);
        due("letter(2, 0, 0)", x.letter(2, 0, 0), BAD);
    }

    private static void drawnLetters() {
        promise = 12;
        // H 7 of HEIGHT 30: 1 and 4 begin at 0, step 0 and 1 are empty; 29 at 6
        DropCapitals x = told("set leading 5;set cap 2;shape a 30 0 60 1 50 4 31 29 0;par a 2: a; par: b;");
        int[][] want = {{0, 0, 14}, {0, 0, 12}, {0, 6, 8}, {6, 7, 0}};
        for (int i = 0; i < 4; i++) {
            for (int w = 0; w < 3; w++) due("drawn(0, " + i + ", " + w + ")", x.drawn(0, i, w), want[i][w]);
        }
        due("drawn(0, 4, 0)", x.drawn(0, 4, 0), NONE);
        due("drawn(1, 0, 0)", x.drawn(1, 0, 0), NONE);
        due("drawn(1, 0, 3)", x.drawn(1, 0, 3), BAD);
        due("drawn(0, 0, -1)", x.drawn(0, 0, -1), BAD);
        due("drawn(0, -1, 0)", x.drawn(0, -1, 0), BAD);
        due("drawn(2, 0, 0)", x.drawn(2, 0, 0), BAD);
        promise = 13;
        due("reach(0, 0)", x.reach(0, 0), 9);
        due("reach(0, 1)", x.reach(0, 1), 9);
        due("reach(0, 2)", x.reach(0, 2), 0);
        due("reach(0, most)", x.reach(0, MOST), 0);
        due("reach(0, 2 to the 30)", x.reach(0, 1 << 30), 0);
        due("reach(0, -1)", x.reach(0, -1), BAD);
        due("reach(1, -1)", x.reach(1, -1), BAD);
        due("reach(1, 0)", x.reach(1, 0), NONE);
        due("reach(2, 0)", x.reach(2, 0), BAD);
        // an outline that reaches nowhere has the gap alone
        DropCapitals y = told("set leading 4;set cap 20;shape a 1 0 0;par a 5: a;");
        due("reach(0, 8)", y.reach(0, 8), 1);
        due("reach(0, 9)", y.reach(0, 9), 0);
        y.set(11, 0);
        due("reach(0, 8)", y.reach(0, 8), 0);
    }

    private static void lines() {
        promise = 14;
        DropCapitals x = told("set measure 20;set policy 1;shape a 10 0 9;par a 2: mmm xx ii a; par: b;");
        // H 13, the letter 12 and 1 wide: rooms 7, 7
        int[][] want = {{0, 0, 1, 13, 7, 9, 1, 0}, {0, 1, 2, 13, 7, 7, 0, 0}, {0, 3, 1, 0, 20, 2, 0, 0}, {1, 0, 1, 0, 20, 2, 0, 0}};
        for (int l = 0; l < 4; l++) {
            for (int w = 0; w < 8; w++) due("line(" + l + ", " + w + ")", x.line(l, w), want[l][w]);
        }
        due("line(4, 0)", x.line(4, 0), BAD);
        due("line(-1, 0)", x.line(-1, 0), BAD);
        due("line(0, 8)", x.line(0, 8), BAD);
        due("line(0, -1)", x.line(0, -1), BAD);
        x.drop(0, 0, 5);
        x.set(8, 99);
        for (int w = 0; w < 8; w++) due("line(1, " + w + ") of an empty one", x.line(1, w), NONE);
        due("line(4, 0)", x.line(4, 0), NONE);
        due("line(5, 0)", x.line(5, 0), 1);
        due("line(1, 8)", x.line(1, 8), BAD);
        x.set(13, 0);
        due("line(1, 7)", x.line(1, 7), 1);
        due("line(0, 7)", x.line(0, 7), 0);
    }

    private static void signs() {
        promise = 15;
        DropCapitals x = told("set measure 20;set policy 1;shape a 10 0 1;par a 3: mmmmmm ab cde f; par: z;");
        int[] want = {13, 13, 13, 13, 13, 13, NONE};
        for (int k = 0; k < 7; k++) due("sign(0, " + k + ")", x.sign(0, k), want[k]);
        int[] next = {1, 2, 0, 3, 4, 5, 0, 6, NONE, NONE};
        for (int k = 0; k < 10; k++) due("sign(1, " + k + ")", x.sign(1, k), next[k]);
        due("sign(1, most)", x.sign(1, MOST), NONE);
        due("sign(2, 0) of an empty one", x.sign(2, 0), NONE);
        due("sign(2, -1)", x.sign(2, -1), BAD);
        due("sign(3, 0)", x.sign(3, 0), 26);
        due("sign(4, 0)", x.sign(4, 0), BAD);
        due("sign(-1, 0)", x.sign(-1, 0), BAD);
    }

    private static void evenLines() {
        promise = 14;
        DropCapitals x = told("set measure 20;par: aaaa bbbb cc dddd eeee a;");
        due("line(0, 2)", x.line(0, 2), 2);
        x.set(12, 1);
        // 8 8 | 4 8 | 8 2 leaves 3 and 7, 8 | 8 4 | 8 8 does not take the last word: three lines, the last counts not
        due("line(0, 2)", x.line(0, 2), 2);
        due("line(1, 2)", x.line(1, 2), 2);
        due("par(0, 9)", x.par(0, 9), 9 + 49);
        // fewest over goes ahead of slack: rooms 7, 7, 20 by a letter that is 13 wide
        DropCapitals y = told("set measure 20;shape a 10 0 9;par a 2: a b mmm mm;");
        due("FIRST over", y.rule(7), 1);
        due("FIRST lines", y.rule(4), 3);
        due("FIRST line 1", y.line(1, 1), 2);
        y.set(12, 1);
        due("EVEN over", y.rule(7), 0);
        due("EVEN lines", y.rule(4), 3);
        due("EVEN line 1", y.line(1, 1), 1);
        due("EVEN line 2", y.line(2, 1), 2);
        // the last line's slack is free: 3 left beats 12 left, though the last line has 16 left then
        DropCapitals v = told("set measure 20;set mode 1;par: aaaa bbbb cc;");
        due("short last line, line 0", v.line(0, 2), 2);
        due("short last line, sum", v.par(0, 9), 9);
        // 18 and 1 with 1 between fill the line
        DropCapitals u = told("set measure 20;set mode 1;par: mmmmmm i aa bb;");
        due("full line, words", u.line(0, 2), 2);
        due("full line, sum", u.par(0, 9), 0);
        // 5 and 10 left, or 10 and 5: of like sums the way with more words in its first line
        DropCapitals z = told("set measure 20;set mode 1;par: aaaaa aa bbbbb mmmmmm;");
        due("like sums, line 0", z.line(0, 2), 2);
        due("like sums, line 1", z.line(1, 2), 1);
        due("like sums, line 2", z.line(2, 2), 1);
    }

    /** Each change by hand shows in how the lines lie, asked ahead of it and behind it. */
    private static void changesShow() {
        String text = "set policy 1;set measure 20;shape a 10 0 1;par a 4: aaaaa bbbbb;par: c d;";
        promise = 19;
        DropCapitals x = told(text);
        due("lines", x.rule(4), 5);
        x.drop(0, 0, 2);
        due("lines behind drop", x.rule(4), 3);
        promise = 20;
        x = told(text);
        due("lines", x.rule(4), 5);
        x.fit();
        due("lines behind fit", x.rule(4), 3);
        promise = 21;
        x = told(text);
        due("lines", x.rule(4), 5);
        x.cut(1, 1);
        due("lines behind cut", x.rule(4), 6);
        promise = 22;
        x = told(text);
        due("lines", x.rule(4), 5);
        x.join(0);
        due("lines behind join", x.rule(4), 2);
        promise = 23;
        x = told(text);
        due("words on line 1", x.line(1, 2), 1);
        x.move(1, 0, 0, 1);
        due("words on line 1 behind move", x.line(1, 2), 2);
        promise = 25;
        x = told(text);
        x.keep(0);
        x.join(0);
        due("lines", x.rule(4), 2);
        x.back(0);
        due("lines behind back", x.rule(4), 5);
        promise = 4;
        feedAll(x, "par: a;");
        x.text();
        due("lines behind text", x.rule(4), 1);
    }

    /** The edges of a drawn step and of a band: what only meets them has nothing of it. */
    private static void edgesOfBands() {
        promise = 13;
        // H 16 of HEIGHT 16: steps from 0, 4, 8, 9; bands from 0, 4, 8, 12
        DropCapitals x = told("set leading 4;set cap 4;set gap 0;shape a 16 0 1 4 9 8 2 9 3;par a 4: a;");
        int[] want = {1, 9, 3, 3, 0};
        for (int j = 0; j < 5; j++) due("reach(0, " + j + ")", x.reach(0, j), want[j]);
        // H 8 of HEIGHT 16: the step from 1 up to 2 is empty, wide as it is
        DropCapitals y = told("set leading 4;set cap 4;set gap 0;shape a 16 0 60 1 6 15 50;par a 2: a;");
        due("an empty step's begin", y.drawn(0, 0, 0), 0);
        due("an empty step's end", y.drawn(0, 0, 1), 0);
        due("reach(0, 0) beside an empty step", y.reach(0, 0), 3);
        due("reach(0, 1)", y.reach(0, 1), 25);
        // H 8 of HEIGHT 16 again: the empty step lies at 2, within the band
        DropCapitals e = told("set leading 4;set cap 4;set gap 0;shape a 16 0 1 4 60 5 2;par a 2: a;");
        due("a step that begins at 2", e.drawn(0, 1, 0), 2);
        due("and ends there", e.drawn(0, 1, 1), 2);
        due("reach(0, 0) with it", e.reach(0, 0), 1);
        // two paragraphs ahead: a letter may reach beyond the next paragraph
        DropCapitals z = told("shape a 10 0 1;par a 5: a;par: b;par: c;par: d;par: e;");
        due("clashes of a far letter", z.rule(6), 4);
        z.set(13, 1);
        due("lines by PUSH", z.rule(4), 9);
        z.set(13, 2);
        due("lines by WRAP", z.rule(4), 5);
        due("indent two behind", z.line(2, 3), 5);
        z.drop(2, 0, 2);
        due("a letter of its own begins behind", z.par(2, 4), 5);
    }

    private static void bests() {
        promise = 16;
        // by PUSH a deeper letter only leaves more empty lines; the last paragraph's own drop is free of that
        DropCapitals x = told("set policy 1;shape a 10 0 1;par a 4: a; par a 3: b; par: c;");
        due("best(0)", x.best(0), 2);
        due("best(1)", x.best(1), 2);
        due("best(2)", x.best(2), NONE);
        due("best(3)", x.best(3), BAD);
        due("best(-1)", x.best(-1), BAD);
        due("best leaves the drop", x.par(0, 2), 4);
        due("best leaves the lines", x.rule(4), 4 + 3 + 1);
        promise = 17;
        for (int n = 2; n <= 5; n++) due("tried(0, " + n + ")", x.tried(0, n), n + 3 + 1);
        due("tried leaves the drop", x.par(0, 2), 4);
        due("tried(0, 1)", x.tried(0, 1), BAD);
        due("tried(0, 6)", x.tried(0, 6), BAD);
        due("tried(2, 6)", x.tried(2, 6), BAD);
        due("tried(2, 2)", x.tried(2, 2), NONE);
        due("tried(3, 2)", x.tried(3, 2), BAD);
        promise = 16;
        // by TELL the lines are as many: the fewest clashes
        DropCapitals y = told("shape a 10 0 1;par a 4: a; par: b; par: c;");
        due("best(0) by clashes", y.best(0), 2);
        // nothing speaks against the deepest one
        DropCapitals z = told("shape a 10 0 1;par a 2: a;");
        due("best(0) by depth", z.best(0), 5);
        // the fewest over: the word of 12 goes in beside H 13 and H 21, not beside H 29 and H 37
        DropCapitals w = told("shape a 37 0 37;par a 5: aaaaaa;");
        due("over by 5", w.rule(7), 1);
        due("best(0) by over", w.best(0), 3);
    }

    private static void settings() {
        promise = 18;
        DropCapitals x = told("shape a 10 0 1;par a 2: a b;");
        int[] low = {20, 4, 2, 0, 0, 0};
        int[] high = {99, 20, 20, 9, 1, 2};
        int[] first = {40, 8, 5, 1, 0, 0};
        for (int i = 0; i < 6; i++) {
            due("set(" + (8 + i) + ", low - 1)", x.set(8 + i, low[i] - 1), BAD);
            due("set(" + (8 + i) + ", high + 1)", x.set(8 + i, high[i] + 1), BAD);
            due("set(" + (8 + i) + ", low)", x.set(8 + i, low[i]), first[i]);
            due("set(" + (8 + i) + ", high)", x.set(8 + i, high[i]), low[i]);
            due("rule(" + (8 + i) + ")", x.rule(8 + i), high[i]);
        }
        due("set(7, 1)", x.set(7, 1), BAD);
        due("set(14, 1)", x.set(14, 1), BAD);
        due("set(most, 1)", x.set(MOST, 1), BAD);
        due("set(least, 1)", x.set(LEAST, 1), BAD);
        due("H by leading 20, cap 20", x.par(0, 3), 40);
        due("reach with gap 9", x.reach(0, 0), 13);
    }

    private static void drops() {
        promise = 19;
        DropCapitals x = told("shape a 10 0 1;shape b 10 0 2;par a 2: a b;par: c;");
        due("drop(0, 1, 5)", x.drop(0, 1, 5), 2);
        due("par(0, 1)", x.par(0, 1), 1);
        due("par(0, 2)", x.par(0, 2), 5);
        due("drop(1, 0, 2)", x.drop(1, 0, 2), 0);
        due("drop(0, 2, 2)", x.drop(0, 2, 2), BAD);
        due("drop(0, -1, 0)", x.drop(0, -1, 0), BAD);
        due("drop(0, 0, 0)", x.drop(0, 0, 0), BAD);
        due("drop(0, 0, 1)", x.drop(0, 0, 1), BAD);
        due("drop(0, 0, 6)", x.drop(0, 0, 6), BAD);
        due("drop(0, NONE, 2)", x.drop(0, NONE, 2), BAD);
        due("drop(2, 0, 2)", x.drop(2, 0, 2), BAD);
        due("drop(0, NONE, 0)", x.drop(0, NONE, 0), 5);
        due("par(0, 1)", x.par(0, 1), NONE);
        due("par(0, 2)", x.par(0, 2), 0);
        due("drop(0, NONE, 0)", x.drop(0, NONE, 0), 0);
        promise = 20;
        DropCapitals y = told("set policy 1;shape a 10 0 1;par a 4: a; par: b; par a 2: c; par a 3: d;");
        due("fit()", y.fit(), 2);
        due("par(0, 2)", y.par(0, 2), 2);
        due("par(1, 2)", y.par(1, 2), 0);
        due("par(2, 2)", y.par(2, 2), 2);
        due("par(3, 2)", y.par(3, 2), 5);
        due("fit()", y.fit(), 0);
    }

    private static void cutsAndJoins() {
        promise = 21;
        DropCapitals x = told("shape a 10 0 1;par a 2: a b c d e f g h;par a 3: i;");
        due("cut(0, 0)", x.cut(0, 0), BAD);
        due("cut(0, 8)", x.cut(0, 8), BAD);
        due("cut(1, 1)", x.cut(1, 1), BAD);
        due("cut(2, 1)", x.cut(2, 1), BAD);
        due("cut(0, least)", x.cut(0, LEAST), BAD);
        due("cut(0, 7)", x.cut(0, 7), 3);
        due("par(0, 1)", x.par(0, 1), 0);
        due("par(0, 2)", x.par(0, 2), 2);
        due("par(1, 0)", x.par(1, 0), 1);
        due("par(1, 1)", x.par(1, 1), NONE);
        due("par(1, 2)", x.par(1, 2), 0);
        due("par(2, 2)", x.par(2, 2), 3);
        due("letter(1, 0, 0)", x.letter(1, 0, 0), 8);
        for (int n = 4; n <= 8; n++) due("cut(0, 1)", x.cut(n - 4, 1), n);
        due("cut(5, 0)", x.cut(5, 0), BAD);
        due("cut(5, 1)", x.cut(5, 1), FULL);
        due("rule(1)", x.rule(1), 8);
        promise = 22;
        due("join(7)", x.join(7), NONE);
        due("join(8)", x.join(8), BAD);
        due("join(-1)", x.join(-1), BAD);
        due("join(6)", x.join(6), 2);
        due("par(6, 1)", x.par(6, 1), NONE);
        due("join(0)", x.join(0), 2);
        due("par(0, 2)", x.par(0, 2), 2);
        due("rule(1)", x.rule(1), 6);
        due("letter(0, 1, 0)", x.letter(0, 1, 0), 2);
        due("letter(1, 0, 0)", x.letter(1, 0, 0), 3);
        due("letter(5, 1, 0)", x.letter(5, 1, 0), 9);
    }

    private static void lettersDue(DropCapitals x, String want) {
        StringBuilder got = new StringBuilder();
        for (int p = 0; p < x.rule(1); p++) {
            for (int i = 0; i < x.par(p, 0); i++) got.append((char) ('a' - 1 + x.letter(p, i, 0)));
            got.append('.');
        }
        if (!got.toString().equals(want)) {
            wrong++;
            System.out.println("promise " + promise + ": words are " + got + ", due are " + want);
        }
    }

    private static void moves() {
        promise = 23;
        DropCapitals x = told("par: a b c;par: d e;par: f;");
        due("move(0, 0, 1, 0)", x.move(0, 0, 1, 0), 3);
        lettersDue(x, "bc.dae.f.");
        due("move(1, 2, 0, NONE)", x.move(1, 2, 0, NONE), 3);
        lettersDue(x, "ebc.da.f.");
        due("move(0, 2, 2, NONE)", x.move(0, 2, 2, NONE), 2);
        lettersDue(x, "eb.da.cf.");
        due("move(2, 0, 2, 1)", x.move(2, 0, 2, 1), 2);
        lettersDue(x, "eb.da.fc.");
        due("move(2, 1, 2, NONE)", x.move(2, 1, 2, NONE), 2);
        lettersDue(x, "eb.da.cf.");
        due("move(2, 1, 2, 0)", x.move(2, 1, 2, 0), 2);
        lettersDue(x, "eb.da.cf.");
        due("move(2, 0, 2, NONE)", x.move(2, 0, 2, NONE), 2);
        lettersDue(x, "eb.da.cf.");
        due("move(2, 1, 0, 1)", x.move(2, 1, 0, 1), 3);
        lettersDue(x, "ebf.da.c.");
        due("move(2, 0, 0, 1)", x.move(2, 0, 0, 1), STATE);
        due("move(2, 0, 2, NONE)", x.move(2, 0, 2, NONE), STATE);
        due("move(0, 1, 0, 1)", x.move(0, 1, 0, 1), STATE);
        due("move(2, 0, 0, 3)", x.move(2, 0, 0, 3), BAD);
        due("move(0, 3, 1, 0)", x.move(0, 3, 1, 0), BAD);
        due("move(0, -1, 1, 0)", x.move(0, -1, 1, 0), BAD);
        due("move(3, 0, 0, 0)", x.move(3, 0, 0, 0), BAD);
        due("move(0, 0, 3, NONE)", x.move(0, 0, 3, NONE), BAD);
        due("move(0, 0, 1, -1)", x.move(0, 0, 1, -1), BAD);
        due("move(0, 0, 1, most)", x.move(0, 0, 1, MOST), BAD);
        lettersDue(x, "ebf.da.c.");
    }

    private static void images() {
        promise = 24;
        DropCapitals x = told("shape a 10 0 1;par a 2: a b c;par: d;");
        due("keep(2)", x.keep(2), BAD);
        due("keep(-1)", x.keep(-1), BAD);
        due("keep(0)", x.keep(0), 0);
        due("keep(0)", x.keep(0), 1);
        promise = 25;
        due("back(2)", x.back(2), BAD);
        due("back(-1)", x.back(-1), BAD);
        due("back(1)", x.back(1), STATE);
        x.set(8, 50);
        x.set(13, 2);
        x.drop(0, NONE, 0);
        x.cut(0, 1);
        x.move(1, 1, 2, 0);
        due("keep(1)", x.keep(1), 0);
        due("back(0)", x.back(0), 2);
        lettersDue(x, "abc.d.");
        due("rule(8)", x.rule(8), 40);
        due("rule(13)", x.rule(13), 0);
        due("par(0, 2)", x.par(0, 2), 2);
        due("rule(6)", x.rule(6), 1);
        due("back(1)", x.back(1), 3);
        lettersDue(x, "a.b.dc.");
        due("rule(8)", x.rule(8), 50);
        due("par(0, 1)", x.par(0, 1), NONE);
        x.join(0);
        due("back(1)", x.back(1), 3);
        due("back(0)", x.back(0), 2);
        due("rule(15)", x.rule(15), 2);
    }

    public static void main(String[] args) {
        aNewObject();
        feedAndEnd();
        textThatIsTaken();
        faultsOfTokens();
        faultsOfShapes();
        faultsOfSettingsAndPars();
        rules();
        shapesAndSteps();
        pars();
        wordsAndLetters();
        drawnLetters();
        lines();
        signs();
        evenLines();
        changesShow();
        edgesOfBands();
        bests();
        settings();
        drops();
        cutsAndJoins();
        moves();
        images();
        System.out.println(wrong == 0 ? "all promises are kept" : wrong + " answers are not as due");
        if (wrong != 0) System.exit(1);
    }
}
