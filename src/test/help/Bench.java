import java.util.ArrayList;
import java.util.List;
import java.util.regex.Matcher;
import java.util.regex.Pattern;

/**
 * Runs of calls told as text, each under the sentence of the document that it tests. Every call that is
 * refused is tested for changing nothing, too: two objects, one with it and one without, are asked all
 * that can be asked. No object gets more than the 512 calls that the document promises.
 *
 * A step is one of: {@code move(0, 1, 0, NONE) = 2} (a call and what is due), {@code 'par: a;' = 1} (a
 * text that is fed and taken), {@code 'par: ^0;' = fault 2} (one that is not: ^ stands ahead of the
 * place of the fault, and is not fed), {@code tape 'par'} (bytes that are fed alone).
 */
public final class Bench {
    private static final int CALLS_MAX = 512;
    private static final Pattern CALL = Pattern.compile("([a-z]+)\\(([^)]*)\\)(?: = (\\S+))?");
    private static final Pattern TEXT = Pattern.compile("(?s)'(.*)' = (fault )?(-?\\d+)");
    private static final Pattern TAPE = Pattern.compile("(?s)tape '(.*)'");

    private static int wrong = 0;
    private static int edges = 0;
    private static int refused = 0;

    private Bench() {
    }

    /** A call with its numbers. */
    private record Call(String name, int... numbers) {
        String told() {
            StringBuilder s = new StringBuilder(name).append('(');
            for (int i = 0; i < numbers.length; i++) s.append(i > 0 ? ", " : "").append(numbers[i]);
            return s.append(')').toString();
        }

        int on(DropCapitals x) {
            int[] n = numbers;
            return switch (name + n.length) {
                case "feed1" -> x.feed(n[0]);
                case "end1" -> x.end(n[0]);
                case "text0" -> x.text();
                case "fault0" -> x.fault();
                case "rule1" -> x.rule(n[0]);
                case "shape2" -> x.shape(n[0], n[1]);
                case "step3" -> x.step(n[0], n[1], n[2]);
                case "par2" -> x.par(n[0], n[1]);
                case "word3" -> x.word(n[0], n[1], n[2]);
                case "letter3" -> x.letter(n[0], n[1], n[2]);
                case "drawn3" -> x.drawn(n[0], n[1], n[2]);
                case "reach2" -> x.reach(n[0], n[1]);
                case "line2" -> x.line(n[0], n[1]);
                case "sign2" -> x.sign(n[0], n[1]);
                case "best1" -> x.best(n[0]);
                case "tried2" -> x.tried(n[0], n[1]);
                case "set2" -> x.set(n[0], n[1]);
                case "drop3" -> x.drop(n[0], n[1], n[2]);
                case "fit0" -> x.fit();
                case "cut2" -> x.cut(n[0], n[1]);
                case "join1" -> x.join(n[0]);
                case "move4" -> x.move(n[0], n[1], n[2], n[3]);
                case "keep1" -> x.keep(n[0]);
                case "back1" -> x.back(n[0]);
                default -> throw new IllegalArgumentException("no such call: " + told());
            };
        }
    }

    /** Asks an object that a run of calls made; a new one, when the calls of one object are spent. */
    private static final class Asker {
        private final List<Call> run;
        private DropCapitals x;
        private int spent = CALLS_MAX;

        Asker(List<Call> run) {
            this.run = run;
        }

        int ask(String name, int... numbers) {
            if (spent >= CALLS_MAX) {
                if (run.size() >= CALLS_MAX) throw new IllegalStateException("a run of too many calls");
                x = new DropCapitals();
                for (Call c : run) c.on(x);
                spent = run.size();
            }
            spent++;
            return new Call(name, numbers).on(x);
        }
    }

    /** One run of calls, as it is told step by step. */
    private static final class Run {
        private final String sentence;
        private final DropCapitals x = new DropCapitals();
        private final List<Call> run = new ArrayList<>();

        Run(String sentence) {
            this.sentence = sentence;
        }

        void say(String what) {
            wrong++;
            System.out.println("[" + sentence + "] " + what);
        }

        int call(Call c) {
            run.add(c);
            if (run.size() == CALLS_MAX + 1) say("too many calls of one object");
            return c.on(x);
        }

        void due(Call c, int want) {
            List<Call> ahead = new ArrayList<>(run);
            int got = call(c);
            if (got != want) say(c.told() + " answered " + got + ", due is " + want + ", behind " + shortly(ahead));
            if (want < 0) lookForChanges(ahead, c);
        }

        void feed(String bytes) {
            for (int i = 0; i < bytes.length(); i++) {
                Call c = new Call("feed", bytes.charAt(i));
                int got = call(c);
                if (got <= 0) say(c.told() + " answered " + got);
            }
        }

        private void lookForChanges(List<Call> ahead, Call c) {
            refused++;
            List<Call> with = new ArrayList<>(ahead);
            with.add(c);
            List<Call> without = new ArrayList<>(ahead);
            // a text with a fault takes the tape, and its fault is told
            boolean text = c.name().equals("text");
            if (text) without.add(new Call("end", 0));
            String was = allOf(without, !text);
            String is = allOf(with, !text);
            if (!was.equals(is)) say(c.told() + " was refused and changed something, behind " + shortly(ahead));
        }
    }

    private static String shortly(List<Call> calls) {
        StringBuilder s = new StringBuilder();
        for (Call c : calls) {
            if (c.name().equals("feed") && c.numbers()[0] >= 32 && c.numbers()[0] < 127) s.append((char) c.numbers()[0]);
            else s.append(' ').append(c.told()).append(' ');
        }
        return s.toString();
    }

    /** All that can be asked behind a run of calls: as it is, by either image, by what is on the tape. */
    private static String allOf(List<Call> run, boolean withFault) {
        StringBuilder s = new StringBuilder();
        askAll(s, new Asker(run), withFault);
        for (Call c : List.of(new Call("back", 0), new Call("back", 1), new Call("text"))) {
            List<Call> longer = new ArrayList<>(run);
            longer.add(c);
            s.append('\n').append(c.told()).append(new Asker(run).ask(c.name(), c.numbers()));
            askAll(s, new Asker(longer), withFault || c.name().equals("text"));
        }
        return s.toString();
    }

    private static void askAll(StringBuilder s, Asker a, boolean withFault) {
        if (withFault) s.append(a.ask("fault"));
        for (int w = 0; w < 16; w++) s.append(' ').append(a.ask("rule", w));
        for (int g = 0; a.ask("shape", g, 0) >= 0; g++) {
            s.append('\n').append("shape");
            for (int w = 0; w < 4; w++) s.append(' ').append(a.ask("shape", g, w));
            for (int i = 0; a.ask("step", g, i, 0) >= 0; i++) {
                s.append(' ').append(a.ask("step", g, i, 0)).append(' ').append(a.ask("step", g, i, 1));
            }
        }
        for (int p = 0; a.ask("par", p, 0) >= 0; p++) askPar(s, a, p);
        for (int l = 0; a.ask("line", l, 0) != DropCapitals.BAD; l++) {
            s.append('\n').append("line");
            for (int w = 0; w < 8; w++) s.append(' ').append(a.ask("line", l, w));
            for (int k = 0; a.ask("sign", l, k) >= 0; k++) s.append(' ').append(a.ask("sign", l, k));
        }
    }

    private static void askPar(StringBuilder s, Asker a, int p) {
        s.append('\n').append("par");
        for (int w = 0; w < 10; w++) s.append(' ').append(a.ask("par", p, w));
        s.append(' ').append(a.ask("best", p));
        for (int n = 2; n <= 5; n++) s.append(' ').append(a.ask("tried", p, n));
        for (int j = 0; j < 10; j++) s.append(' ').append(a.ask("reach", p, j));
        for (int i = 0; a.ask("drawn", p, i, 0) >= 0; i++) {
            for (int w = 0; w < 3; w++) s.append(' ').append(a.ask("drawn", p, i, w));
        }
        for (int i = 0; a.ask("word", p, i, 0) >= 0; i++) {
            s.append(" w");
            for (int w = 0; w < 5; w++) s.append(' ').append(a.ask("word", p, i, w));
            for (int k = 0; a.ask("letter", p, i, k) >= 0; k++) s.append(' ').append(a.ask("letter", p, i, k));
        }
    }

    private static int numberOf(String s) {
        return switch (s.trim()) {
            case "BAD" -> -1;
            case "STATE" -> -2;
            case "FULL" -> -3;
            case "NONE" -> -4;
            case "LEAST" -> Integer.MIN_VALUE;
            case "MOST" -> Integer.MAX_VALUE;
            default -> Integer.parseInt(s.trim());
        };
    }

    private static void take(Run run, String step) {
        Matcher text = TEXT.matcher(step);
        Matcher tape = TAPE.matcher(step);
        Matcher call = CALL.matcher(step);
        if (text.matches()) {
            takeText(run, text.group(1), text.group(2) != null, Integer.parseInt(text.group(3)));
        } else if (tape.matches()) {
            run.feed(tape.group(1));
        } else if (call.matches()) {
            String[] told = call.group(2).isBlank() ? new String[0] : call.group(2).split(",");
            int[] numbers = new int[told.length];
            for (int i = 0; i < told.length; i++) numbers[i] = numberOf(told[i]);
            Call c = new Call(call.group(1), numbers);
            if (call.group(3) == null) run.call(c);
            else run.due(c, numberOf(call.group(3)));
        } else {
            throw new IllegalArgumentException("no such step: " + step);
        }
    }

    private static void takeText(Run run, String told, boolean faulty, int number) {
        int place = told.indexOf('^');
        if (faulty != (place >= 0)) throw new IllegalArgumentException("a fault has one place: " + told);
        run.feed(faulty ? told.substring(0, place) + told.substring(place + 1) : told);
        run.due(new Call("text"), faulty ? -10 - place : number);
        run.due(new Call("fault"), faulty ? number : 0);
        run.due(new Call("rule", 14), 0);
    }

    /** Tests a sentence of the document by a run of calls on a new object. */
    public static void edge(String sentence, String... steps) {
        edges++;
        Run run = new Run(sentence);
        for (String step : steps) take(run, step);
    }

    /** Tells how it went; fails if an answer was wrong. */
    public static void finish() {
        System.out.println(edges + " runs, " + refused + " refused calls; "
            + (wrong == 0 ? "all answers are as due" : wrong + " answers are not as due"));
        if (wrong != 0) System.exit(1);
    }
}
