/** Promises 38 to 41: keep, again, count, row; and what "Terms" says of refused calls. */
public final class KeptTest {
    public static void main(String[] args) {
        keepAndAgain();
        forgotten();
        count();
        row();
        texts();
        Due.finish();
    }

    private static void keepAndAgain() {
        Due.of("Promise 38", "DAY, CLOCKS, SPENT, LOANS, LOSS, what was SAID are kept under a number 0 .. 1: true. Refused: others.");
        ClockForTalk c = Due.town("5:40;6:10;20:100", "ab10-9=5;ac20-5=8");
        Due.is("39: nothing kept", c.again(0), false);
        Due.is("38: 0", c.keep(0), true);
        Due.is("38: 2", c.keep(2), false);
        Due.is("38: -1", c.keep(-1), false);
        c.say(0, 1);
        c.lend(2, 0, 20, 1);
        c.days(1);
        c.lend(2, 0, 30, 2);
        c.sheet(3, 0, 0, 0);
        c.days(1);
        Due.is("38: LOSS", c.person(2, 6), 30);
        Due.is("38: 1", c.keep(1), true);
        Due.is("38: it is no act that can be undone", c.count(9), 5);
        c.move(0, 50);
        Due.of("Promise 39", "They are as they were kept under a number.");
        Due.is("39: 0", c.again(0), true);
        Due.is("39: DAY", c.count(2), 0);
        Due.is("39: LOANS", c.count(3), 0);
        Due.is("39: SAID", c.count(4), 0);
        Due.is("39: CLOCKS", c.count(6), 150);
        Due.is("39: SPENT", c.person(0, 3), 0);
        Due.is("39: LOSS", c.person(2, 6), 0);
        Due.is("39: one who moved stays", c.person(0, 0), 50);
        Due.is("39: nothing to undo", c.undo(), -1);
        Due.is("39: 1", c.again(1), true);
        Due.is("39: DAY", c.count(2), 2);
        Due.is("39: LOANS", c.count(3), 2);
        Due.is("39: LOAN", c.loan(1, 2), 30);
        Due.is("39: ended", c.loan(1, 4), 1);
        Due.is("39: DUE", c.loan(1, 3), 2);
        Due.is("39: who lent", c.loan(1, 0), 2);
        Due.is("39: SAID", c.count(4), 1);
        Due.is("39: SPENT", c.person(0, 3), 4);
        Due.is("39: LOSS", c.person(2, 6), 30);
        Due.is("39: 0 is still kept", c.again(0), true);
        Due.is("39: 2", c.again(2), false);
        Due.is("39: -1", c.again(-1), false);
        c.give(2, 0, 7);
        Due.is("38: anew", c.keep(1), true);
        Due.is("39: anew", c.again(1), true);
        Due.is("39: what was kept last", c.person(0, 1), 47);
    }

    private static void forgotten() {
        Due.of("Promise 39", "Refused: nothing kept, PEOPLE or THINGS came since.");
        ClockForTalk c = Due.town("5:40;6:10;20:100", "ab10-9=5;ac20-5=8");
        c.keep(0);
        c.keep(1);
        c.people();
        c.things();
        Due.people(c, "x");
        Due.things(c, "ab1-1=1;");
        Due.is("39: empty and refused ones forget nothing", c.again(0), true);
        Due.things(c, "ab1-1=1");
        Due.is("39: THINGS came", c.again(0), false);
        Due.is("39: and for the other", c.again(1), false);
        c.keep(1);
        Due.is("39: kept since", c.again(1), true);
        Due.is("39: the other not", c.again(0), false);
        Due.people(c, "1:1");
        Due.is("39: PEOPLE came", c.again(1), false);
        c.give(0, 1, 1);
        Due.is("39: a refused one changes nothing", c.again(1), false);
        Due.is("39: the clock stays", c.person(0, 1), 39);
    }

    private static void count() {
        Due.of("Promise 40", "What 0: PEOPLE, 1: THINGS, 2: DAY, 3: LOANS, 4: THINGS that were SAID (bits), 5: those that can be said today (bits: not SAID, not too late), 6: CLOCKS in all, 7: LINES of THE GRAMMAR, 8: CLOCKS that were read (bits of PEOPLE), 9: what can be undone, 10: numbers of the ROW, 11: signs of THE TEXT. NONE for another what.");
        ClockForTalk c = Due.town("5:40;6:10;20:100", "ab10-9=5;ac20-5=8;ba9-6=4;cb30-50=9");
        c.lend(2, 0, 20, 1);
        c.say(1, 3);
        c.say(0, 1);
        c.days(6);
        Due.grammar(c, "ab>c");
        c.read(0, 5);
        c.read(2, 5);
        c.sign(0x61626300);
        int[] due = {3, 4, 6, 1, 3, 12, 106, 1, 5, 4, 2, 4};
        for (int i = 0; i < due.length; i++) Due.is("40: count(" + i + ")", c.count(i), due[i]);
        Due.is("40: count(12)", c.count(12), -1);
        Due.is("40: count(-1)", c.count(-1), -1);
        Due.is("40: count(MIN)", c.count(Integer.MIN_VALUE), -1);
        c.end(3);
        Due.is("40: signs", c.count(11), 3);
        c.days(1);
        Due.is("40: one is too late now", c.count(5), 8);
    }

    private static void row() {
        Due.of("Promise 41", "Number i of the ROW. NoSuchElementException: none such.");
        ClockForTalk c = Due.town("5:40;6:10;20:100", "ab10-9=5;ac20-5=8;ba9-6=4;cb30-50=9");
        Due.throwsNoSuch("41: nothing told", () -> c.row(0));
        c.pool();
        Due.is("41: the first", c.row(0), 15);
        Due.is("41: the second", c.row(1), 107);
        Due.throwsNoSuch("41: row(2)", () -> c.row(2));
        Due.throwsNoSuch("41: row(-1)", () -> c.row(-1));
        Due.throwsNoSuch("41: row(MAX)", () -> c.row(Integer.MAX_VALUE));
        c.gifts(0);
        Due.throwsNoSuch("41: one number alone is told now", () -> c.row(1));
        Due.of("Terms 2", "ROW: numbers told last by a call that says so.");
        // Calls that tell no row leave it.
        c.pool();
        c.cost(0, 0);
        c.say(0, 0);
        c.give(2, 0, 5);
        c.lend(2, 0, 5, 9);
        c.undo();
        c.read(0, 5);
        c.forget();
        c.move(0, 1);
        c.sheet(2, 3, 9, 9);
        c.keep(0);
        c.again(0);
        c.enough(5, 5);
        Due.becomes(c, "a");
        Due.grammar(c, "ab>c");
        Due.rule(c, "l");
        Due.people(c, "1:1");
        Due.things(c, "ab1-1=1");
        Due.row("41: it stays", c, 15, 107);
        Due.of("Terms 2", "The ROW stays with NONE and with each number below 0 that tells why there is no answer (-2, -3 ..)");
        // Numbers below 0 that tell why leave it, too.
        c.best(-1);
        c.lacks(9);
        c.gifts(-1);
        c.spoke(0);
        c.spoke(-1);
        c.relay(0, 9, 1);
        c.criers(0, -1, 1);
        c.debate(0, 0, 0);
        c.run(-1);
        c.years(1, 0);
        c.days(-1);
        Due.talk(c, "x");
        Due.shorter(c, "");
        Due.rate(c, "x");
        Due.row("41: it stays with refused ones", c, 15, 107);
    }

    private static void texts() {
        Due.of("Terms 2", "change nothing but THE TEXT, which a call that can read it empties, whatever it answers.");
        // Each call that can read THE TEXT empties it, whatever it answers; others leave it.
        ClockForTalk c = Due.town("5:40;6:10;20:100", "ab10-9=5;ac20-5=8");
        Due.tell(c, "zzz");
        c.pool();
        c.count(0);
        c.undo();
        c.say(0, 0);
        Due.is("41: others leave the text", c.count(11), 3);
        c.end(0);
        Due.is("5: refused", Due.things(c, "zzz"), -1);
        Due.is("5: empties", c.count(11), 0);
        Due.is("6: refused", Due.rule(c, "zzz"), -1);
        Due.is("6: empties", c.count(11), 0);
        Due.is("17: refused", Due.talk(c, "zzz"), -1);
        Due.is("17: empties", c.count(11), 0);
        Due.is("28: refused", Due.grammar(c, "zzz"), -1);
        Due.is("28: empties", c.count(11), 0);
        Due.is("35: refused", Due.rate(c, "zzz"), -10000);
        Due.is("35: empties", c.count(11), 0);
        Due.is("17: done", Due.talk(c, "d1"), 1);
        Due.is("17: empties, done", c.count(11), 0);
        Due.is("6: done", Due.rule(c, "l"), 0);
        Due.is("6: empties, done", c.count(11), 0);
    }
}
