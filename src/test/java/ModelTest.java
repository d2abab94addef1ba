import java.util.NoSuchElementException;
import java.util.Random;

/** Runs drawn by fixed seeds, each call told to the class and to the model; all that can be asked must agree. */
public final class ModelTest {
    private static final int RUNS = 400;
    private static final int CALLS = 160;

    private static int wrong;
    private static Random draw;
    private static ClockForTalk clock;
    private static Model model;
    private static StringBuilder story;
    /** Half of the runs are drawn so that much can be done: close neighbours, cheap words, few faults. */
    private static boolean rich;

    private interface Ask { long of(); }

    private static long answer(Ask ask) {
        try {
            return ask.of();
        } catch (NoSuchElementException e) {
            return Long.MIN_VALUE;
        }
    }

    private static void same(String call, Ask mine, Ask theirs) {
        long got = answer(mine), want = answer(theirs);
        if (got != want && wrong++ < 5) {
            System.out.println(story + "\n  " + call + " answered " + got + ", the model says " + want);
        }
    }

    private static int upTo(int n) { return draw.nextInt(n); }

    private static int near(int least, int most) {
        int r = upTo(rich ? 80 : 20);
        if (r == 0) return least - 1;
        if (r == 1) return most + 1;
        if (r == 2) return draw.nextInt();
        if (r == 3) return most;
        if (r == 4) return least;
        return least + upTo(most - least + 1);
    }

    private static int aPerson() { return upTo(rich ? 60 : 15) == 0 ? near(0, 6) : upTo(Math.max(1, model.steps.size())); }
    private static int aThing() { return upTo(rich ? 60 : 15) == 0 ? near(0, 8) : upTo(Math.max(1, model.things.size())); }

    // ---- texts

    private static String number(int digits) {
        StringBuilder s = new StringBuilder();
        for (int i = 1 + upTo(digits); i > 0; i--) s.append((char) ('0' + upTo(10)));
        return s.toString();
    }

    private static String lines(int most, java.util.function.Supplier<String> line) {
        StringBuilder s = new StringBuilder();
        for (int i = upTo(most + 1); i > 0; i--) s.append(s.length() > 0 ? ";" : "").append(line.get());
        return s.toString();
    }

    private static String people() {
        int close = upTo(3);
        if (rich) {
            int wide = new int[] {1, 3, 5, 12, 40}[upTo(5)];
            StringBuilder s = new StringBuilder();
            for (int i = 3 + upTo(4); i > 0; i--) s.append(s.length() > 0 ? ";" : "").append(upTo(wide)).append(':').append(upTo(3) == 0 ? upTo(9) : upTo(120));
            return s.toString();
        }
        return lines(4, () -> (close == 0 ? number(2) : "" + (close == 1 ? upTo(10) : upTo(30))) + ":" + (upTo(3) == 0 ? number(3) : number(2)));
    }

    private static String things() {
        int all = Math.max(2, model.steps.size());
        if (rich) {
            StringBuilder s = new StringBuilder();
            int one = upTo(all), few = upTo(3);
            for (int i = 4 + upTo(4); i > 0; i--) {
                int a = few == 0 ? one : upTo(all), b = (a + 1 + upTo(all - 1)) % all;
                s.append(s.length() > 0 ? ";" : "").append((char) ('a' + a)).append((char) ('a' + b)).append(1 + upTo(upTo(2) == 0 ? 9 : 60))
                    .append('-').append(20 + upTo(80)).append('=').append(upTo(9));
            }
            return s.toString();
        }
        return lines(5, () -> {
            int a = upTo(all), b = (a + 1 + upTo(all - 1)) % all;
            return "" + (char) ('a' + a) + (char) ('a' + b) + (upTo(25) == 0 ? number(2) : 1 + upTo(upTo(2) == 0 ? 20 : 99))
                + "-" + (upTo(2) == 0 ? 50 + upTo(50) : upTo(100)) + "=" + number(upTo(2) + 1);
        });
    }

    private static final String[] RULES = {"l", "l+w", "(l+1)/2+w", "l/(w+1)", "h*2+w", "c/9", "s+l/9", "w*w", "3", "l*(w=1)+9*(w=0)+7*(w>1)",
        "(9-w)*(c>5)", "l/9+h-s", "63*(w=0)+64*(w=1)+65*(w>1)", "l*7", "d/9+1", "5-w", "999-c", "h", "l-l/3*3"};

    private static String expression(int depth) {
        if (rich && depth == 0 && upTo(3) > 0) return RULES[upTo(RULES.length)];
        String s = sum(depth);
        return upTo(5) == 0 ? s + "<>=".charAt(upTo(3)) + sum(depth) : s;
    }

    private static String sum(int depth) {
        StringBuilder s = new StringBuilder(atom(depth));
        while (upTo(5) < 2) s.append("+-*/*+".charAt(upTo(6))).append(atom(depth));
        return s.toString();
    }

    private static String atom(int depth) {
        String minus = upTo(8) == 0 ? upTo(4) == 0 ? "--" : "-" : "";
        if (upTo(4) == 0 && depth < 5) return minus + "(" + expression(depth + 1) + ")";
        return minus + (upTo(3) == 0 ? number(upTo(3) + 1) : "lwscdh".substring(upTo(6)).substring(0, 1));
    }

    private static String act() {
        switch (upTo(5)) {
            case 0: return "s" + aDigit() + upTo(4);
            case 1: return "b" + aDigit();
            case 2: return "g" + (char) ('a' + upTo(upTo(3) == 0 ? 6 : Math.max(1, model.steps.size()))) + (char) ('a' + upTo(Math.max(1, model.steps.size()))) + number(upTo(3) + 1);
            case 3: return "d" + upTo(4);
            default: return upTo(4) == 0 ? "d" + number(2) : "b" + aDigit();
        }
    }

    private static int aDigit() { return upTo(8) == 0 ? upTo(10) : upTo(Math.max(1, model.things.size())); }

    private static String letters(int most, int of) {
        StringBuilder s = new StringBuilder();
        for (int i = upTo(most + 1); i > 0; i--) s.append((char) ('a' + upTo(of)));
        return s.toString();
    }

    private static String grammar(int of) {
        return lines(11, () -> "" + (char) ('a' + upTo(of)) + (char) ('a' + upTo(of)) + ">" + (char) ('a' + upTo(of)));
    }

    private static String spoiled(String s) {
        if (upTo(rich ? 15 : 4) > 0) return s;
        String signs = "0123456789:;-=<>()*/+abcdefghlswx\u00ff\u0000";
        StringBuilder t = new StringBuilder(s);
        int at = upTo(t.length() + 1);
        char c = signs.charAt(upTo(signs.length()));
        switch (upTo(4)) {
            case 0: t.insert(at, c); break;
            case 1: if (at < t.length()) t.setCharAt(at, c); break;
            case 2: if (at < t.length()) t.deleteCharAt(at); break;
            default: t.setLength(at);
        }
        return t.toString();
    }

    private static void tell(String s) {
        if (upTo(6) > 0) s = spoiled(s);
        if (upTo(30) == 0) s = s + ";" + s;
        if (upTo(60) == 0) s = s + s + s + s;
        if (s.length() > 80) s = s.substring(0, 80);
        story.append("\n  text \"").append(s).append('"');
        for (int i = 0; i < s.length(); i += 4) {
            int v = 0;
            for (int j = 0; j < 4; j++) v = v << 8 | (i + j < s.length() ? s.charAt(i + j) : upTo(256));
            int told = v;
            same("sign", () -> clock.sign(told), () -> model.sign(told));
        }
        int n = s.length();
        same("end", () -> clock.end(n) ? 1 : 0, () -> model.end(n) ? 1 : 0);
    }

    // ---- one call

    private static void call() {
        int a, b, c, d;
        int which = upTo(43);
        if (rich && which < 2 && upTo(6) > 0) which = 2;
        switch (which) {
            case 0: tell(people()); story.append(" people"); same("people", () -> clock.people(), () -> model.people()); break;
            case 1: tell(things()); story.append(" things"); same("things", () -> clock.things(), () -> model.things()); break;
            case 2: tell(upTo(6) == 0 ? "" : expression(0)); story.append(" rule"); same("rule", () -> clock.rule(), () -> model.rule()); break;
            case 3: tell(expression(0)); story.append(" rate"); same("rate", () -> clock.rate(), () -> model.rate()); break;
            case 4: a = aPerson(); b = near(0, 99); story.append(" move " + a + " " + b); same("move", () -> clock.move(a, b), () -> model.move(a, b)); break;
            case 5: {
                int kind = near(0, 3), n = near(0, 6), f = upTo(3) == 0 ? draw.nextInt() : upTo(300), step = upTo(3) == 0 ? draw.nextInt() : upTo(100) - 30;
                if (upTo(3) > 0) break;
                story.append(" sheet " + kind + " " + n + " " + f + " " + step);
                same("sheet", () -> clock.sheet(kind, n, f, step), () -> model.sheet(kind, n, f, step));
                break;
            }
            case 6: a = aThing(); b = near(0, 3); story.append(" cost " + a + " " + b); same("cost", () -> clock.cost(a, b), () -> model.cost(a, b)); break;
            case 7: case 8: case 9: a = aThing(); b = near(0, 3); story.append(" say " + a + " " + b); same("say", () -> clock.say(a, b), () -> model.say(a, b)); break;
            case 10: case 11: a = aPerson(); b = aPerson(); c = upTo(8) == 0 ? near(1, 9999) : 1 + upTo(30); story.append(" give " + a + " " + b + " " + c); same("give", () -> clock.give(a, b, c), () -> model.give(a, b, c)); break;
            case 12: case 13: case 14: a = aPerson(); b = aPerson(); c = upTo(8) == 0 ? near(1, 999) : 1 + upTo(60); d = model.now.day + near(0, upTo(10) == 0 ? 9999 : 60); story.append(" lend " + a + " " + b + " " + c + " " + d); same("lend", () -> clock.lend(a, b, c, d), () -> model.lend(a, b, c, d)); break;
            case 15: case 16: a = upTo(3) == 0 ? near(0, 99) : upTo(12); story.append(" days " + a); same("days", () -> clock.days(a), () -> model.days(a)); break;
            case 17: case 18: tell(lines(8, () -> act())); story.append(" talk"); same("talk", () -> clock.talk(), () -> model.talk()); break;
            case 19: case 20: story.append(" undo"); same("undo", () -> clock.undo(), () -> model.undo()); break;
            case 21: a = aPerson(); story.append(" best " + a); same("best", () -> clock.best(a), () -> model.best(a)); break;
            case 22: a = aPerson(); story.append(" lacks " + a); same("lacks", () -> clock.lacks(a), () -> model.lacks(a)); break;
            case 23: story.append(" pool"); same("pool", () -> clock.pool(), () -> model.pool()); break;
            case 24: a = upTo(3) == 0 ? near(0, 255) : model.count(5) & draw.nextInt(); story.append(" gifts " + a); same("gifts", () -> clock.gifts(a), () -> model.gifts(a)); break;
            case 25: story.append(" mute"); same("mute", () -> clock.mute(), () -> model.mute()); break;
            case 26: case 27: a = aPerson(); b = aPerson(); c = near(1, 99); story.append(" relay " + a + " " + b + " " + c); same("relay", () -> clock.relay(a, b, c), () -> model.relay(a, b, c)); break;
            case 28: case 29: a = aPerson(); b = upTo(4) == 0 ? near(0, 63) : draw.nextInt() & (1 << model.steps.size()) - 1; c = near(1, 99); story.append(" criers " + a + " " + b + " " + c); same("criers", () -> clock.criers(a, b, c), () -> model.criers(a, b, c)); break;
            case 30: a = near(0, 60); b = near(0, 60); c = near(1, 9); story.append(" debate " + a + " " + b + " " + c); same("debate", () -> clock.debate(a, b, c), () -> model.debate(a, b, c)); break;
            case 31: a = near(0, 60); b = near(1, 9); story.append(" enough " + a + " " + b); same("enough", () -> clock.enough(a, b), () -> model.enough(a, b)); break;
            case 32: tell(grammar(2 + upTo(6))); story.append(" grammar"); same("grammar", () -> clock.grammar(), () -> model.grammar()); break;
            case 33: tell(letters(upTo(9) == 0 ? 16 : 8, 2 + upTo(6))); story.append(" shorter"); same("shorter", () -> clock.shorter(), () -> model.shorter()); break;
            case 34: tell(letters(upTo(9) == 0 ? 16 : 8, 2 + upTo(6))); story.append(" becomes"); same("becomes", () -> clock.becomes(), () -> model.becomes()); break;
            case 35: case 36: a = aPerson(); b = upTo(4) == 0 || !model.isPerson(a) ? near(0, 9999) : dusk(a); story.append(" read " + a + " " + b); same("read", () -> clock.read(a, b), () -> model.read(a, b)); break;
            case 37: a = aPerson(); story.append(" spoke " + a); same("spoke", () -> clock.spoke(a), () -> model.spoke(a)); break;
            case 38: story.append(" look"); same("look", () -> clock.look(), () -> model.look()); break;
            case 39: a = aPerson(); story.append(" run " + a); same("run", () -> clock.run(a), () -> model.run(a)); break;
            case 40: a = draw.nextInt(); b = near(1, 60); story.append(" years " + a + " " + b); same("years", () -> clock.years(a, b), () -> model.years(a, b)); break;
            case 41: a = near(0, 1); story.append(" keep " + a); same("keep", () -> clock.keep(a) ? 1 : 0, () -> model.keep(a) ? 1 : 0); break;
            default:
                if (upTo(4) == 0) { story.append(" forget"); same("forget", () -> clock.forget(), () -> model.forget()); break; }
                a = near(0, 1); story.append(" again " + a); same("again", () -> clock.again(a) ? 1 : 0, () -> model.again(a) ? 1 : 0);
        }
    }

    /** Mostly a reading that some day explains. */
    private static int dusk(int person) {
        int clock = model.now.clocks.get(person);
        java.util.List<Integer> seen = new java.util.ArrayList<>();
        for (java.util.Set<Integer> sums : model.days(model.openOf(person)).values()) {
            for (int s : sums) if (s <= clock) seen.add(clock - s);
        }
        java.util.Collections.sort(seen);
        return upTo(5) == 0 ? Math.max(0, clock - upTo(50)) : seen.get(upTo(seen.size()));
    }

    private interface Told { int of(int i, int what); }

    /** All that is told of each there is, and at the edges of that: none such, another what. */
    private static void compareEach(String call, int many, int whats, Told mine, Told theirs) {
        for (int i = 0; i < many; i++) {
            for (int j = 0; j < whats; j++) compareOne(call, i, j, mine, theirs);
        }
        for (int i = -1; i <= many; i++) {
            compareOne(call, i, -1, mine, theirs);
            compareOne(call, i, whats, mine, theirs);
        }
        compareOne(call, -1, 0, mine, theirs);
        compareOne(call, many, 0, mine, theirs);
    }

    private static void compareOne(String call, int i, int what, Told mine, Told theirs) {
        same(call + "(" + i + ", " + what + ")", () -> mine.of(i, what), () -> theirs.of(i, what));
    }

    private static void compareAll() {
        for (int i = -1; i <= 12; i++) {
            int what = i;
            same("count(" + what + ")", () -> clock.count(what), () -> model.count(what));
        }
        for (int i = -1; i <= model.row.size(); i++) {
            int n = i;
            same("row(" + n + ")", () -> clock.row(n), () -> model.row(n));
        }
        compareEach("person", model.steps.size(), 7, clock::person, model::person);
        compareEach("thing", model.things.size(), 8, clock::thing, model::thing);
        compareEach("loan", model.now.loans.size(), 5, clock::loan, model::loan);
    }

    public static void main(String[] args) {
        int first = args.length > 0 ? Integer.parseInt(args[0]) : 1;
        int runs = args.length > 1 ? Integer.parseInt(args[1]) : RUNS;
        for (int seed = first; seed < first + runs; seed++) {
            draw = new Random(seed);
            clock = new ClockForTalk();
            model = new Model();
            story = new StringBuilder("run " + seed + ":");
            rich = seed % 2 == 0;
            for (int i = 0; i < CALLS; i++) {
                if (i < 2 && (rich || upTo(4) > 0)) {
                    tell(i == 0 ? people() : things());
                    story.append(i == 0 ? " people" : " things");
                    if (i == 0) same("people", () -> clock.people(), () -> model.people());
                    else same("things", () -> clock.things(), () -> model.things());
                } else {
                    call();
                }
                compareAll();
                if (wrong > 0) break;
            }
        }
        System.out.println(wrong == 0 ? runs + " runs as the model says" : wrong + " answers are not as the model says");
        if (wrong > 0) System.exit(1);
    }
}
