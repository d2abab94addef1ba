/** Promises 12 to 18: cost, say, give, lend, days, talk, undo. */
public final class TalkTest {
    public static void main(String[] args) {
        cost();
        say();
        give();
        lend();
        days();
        newYear();
        talk();
        talkWrong();
        undo();
        undoOrder();
        Due.finish();
    }

    private static void cost() {
        Due.of("Promise 12", "COST of a THING by a WAY, now (SAID or not). -2: it is not heard so; NONE: others.");
        ClockForTalk c = Due.town("0:40;3:10;4:10", "ab9-9=5;ac9-9=5");
        Due.is("12: whispered three apart", c.cost(0, 0), -2);
        Due.is("12: sung, 9 seconds", c.cost(0, 1), 3);
        Due.is("12: loud", c.cost(0, 2), 9);
        Due.is("12: shouted", c.cost(0, 3), 18);
        Due.is("12: sung four apart", c.cost(1, 1), -2);
        c.say(0, 1);
        Due.is("12: SAID, it has a cost", c.cost(0, 1), 3);
        c.days(20);
        Due.is("12: too late, it has a cost", c.cost(1, 2), 9);
        Due.is("12: no such thing", c.cost(2, 1), -1);
        Due.is("12: no such thing, ahead", c.cost(-1, 1), -1);
        Due.is("12: way 4", c.cost(0, 4), -1);
        Due.is("12: way -1", c.cost(0, -1), -1);
        Due.rule(c, "c");
        Due.is("12: the clock as it is now", c.cost(0, 2), 37);
        Due.is("12: a question changes nothing", c.person(0, 1), 37);
    }

    private static void say() {
        Due.of("Promise 13", "A THING is said by a WAY: COST; the CLOCK is so much less.");
        ClockForTalk c = Due.town("0:40;3:10;4:10", "ab9-9=5;ac9-4=5;bc99-9=5;ab3-9=1");
        Due.is("13: loud", c.say(0, 2), 9);
        Due.is("13: the clock", c.person(0, 1), 31);
        Due.is("13: SPENT", c.person(0, 3), 9);
        Due.is("13: SAID", c.count(4), 1);
        Due.of("Promise 13", "-2: it was SAID; -3: it is too late (BY); -4: it is not heard so; -5: the CLOCK has less; NONE: others (asked in this order, that first).");
        Due.is("13: no such way, SAID", c.say(0, 4), -1);
        Due.is("13: SAID is asked first", c.say(0, 0), -2);
        Due.is("13: not heard", c.say(1, 1), -4);
        c.days(5);
        Due.is("13: too late is asked ahead of not heard", c.say(1, 1), -3);
        Due.is("13: the clock has less", c.say(2, 2), -5);
        Due.is("13: nothing changed", c.person(1, 1), 10);
        Due.is("13: no such thing", c.say(4, 0), -1);
        Due.is("13: no such thing, ahead", c.say(-1, 0), -1);
        Due.is("13: way -1", c.say(3, -1), -1);
        Due.of("Promise 13", "A THING is said by a WAY: COST; the CLOCK is so much less.");
        Due.rule(c, "31");
        Due.is("13: all that the clock has", c.say(3, 1), 31);
        Due.is("13: the clock is empty", c.person(0, 1), 0);
        Due.is("13: SPENT is added", c.person(0, 3), 40);
        ClockForTalk b = Due.town("0:40;3:10", "ab9-5=5");
        b.days(5);
        Due.is("13: BY is the last day", b.say(0, 2), 9);
        ClockForTalk f = Due.town("0:0;3:10", "ab9-5=5");
        Due.rule(f, "0");
        Due.is("13: for nothing", f.say(0, 1), 0);
        Due.is("13: it was said", f.count(4), 1);
    }

    private static void give() {
        Due.of("Promise 14", "One gives n (1 .. 9999) seconds to another one: the CLOCK of that one then (9999 at most; what is more is gone).");
        ClockForTalk c = Due.town("0:40;3:10", "");
        Due.is("14: five", c.give(0, 1, 5), 15);
        Due.is("14: who gave", c.person(0, 1), 35);
        Due.is("14: it has less", c.give(0, 1, 36), -2);
        Due.is("14: all it has", c.give(0, 1, 35), 50);
        Due.is("14: SPENT is what was said alone", c.person(0, 3), 0);
        c.sheet(2, 2, 9999, -1);
        Due.is("14: 9999 at most", c.give(0, 1, 100), 9999);
        Due.is("14: what is more is gone", c.person(0, 1), 9899);
        Due.is("14: 9999", c.give(1, 0, 9999), 9999);
        Due.of("Promise 14", "NONE: others, like ones.");
        Due.is("14: 10000", c.give(0, 1, 10000), -1);
        Due.is("14: 0", c.give(0, 1, 0), -1);
        Due.is("14: -1", c.give(0, 1, -1), -1);
        Due.is("14: like ones", c.give(1, 1, 1), -1);
        Due.is("14: nobody", c.give(0, 2, 1), -1);
        Due.is("14: from nobody", c.give(-1, 0, 1), -1);
        Due.is("14: NONE ahead of -2", c.give(1, 2, 9999), -1);
    }

    private static void lend() {
        Due.of("Promise 15", "One lends n (1 .. 999) seconds to another one till a day behind DAY (9999 at most): the LOAN's number; the CLOCKS go as by give().");
        ClockForTalk c = Due.town("0:400;3:10;5:0", "");
        Due.is("15: the first", c.lend(0, 1, 50, 1), 0);
        Due.is("15: the clock of who lends", c.person(0, 1), 350);
        Due.is("15: the clock of who owes", c.person(1, 1), 60);
        Due.of("Promise 15", "-2: it has less; -3: 6 LOANS were made; -4: another day; NONE: others, like ones (asked: NONE, -3, -4, -2).");
        Due.is("15: today", c.lend(0, 1, 50, 0), -4);
        Due.is("15: a day ahead", c.lend(0, 1, 50, -1), -4);
        Due.is("15: 10000", c.lend(0, 1, 50, 10000), -4);
        Due.is("15: 9999", c.lend(0, 1, 50, 9999), 1);
        Due.is("15: it has less", c.lend(2, 1, 1, 5), -2);
        Due.is("15: another day is asked ahead of less", c.lend(2, 1, 1, 0), -4);
        Due.is("15: like ones", c.lend(1, 1, 1, 5), -1);
        Due.is("15: nobody", c.lend(1, 3, 1, 5), -1);
        Due.is("15: from nobody", c.lend(-1, 1, 1, 5), -1);
        Due.is("15: 0", c.lend(0, 1, 0, 5), -1);
        Due.is("15: 1000", c.lend(0, 1, 1000, 5), -1);
        Due.is("15: NONE is first", c.lend(0, 1, 1000, 0), -1);
        for (int i = 2; i < 6; i++) Due.is("15: loan " + i, c.lend(1, 2, 10, 2), i);
        Due.is("15: a seventh", c.lend(1, 2, 10, 2), -3);
        Due.is("15: -3 is asked ahead of -4", c.lend(1, 2, 10, 0), -3);
        Due.is("15: NONE is asked ahead of -3", c.lend(1, 1, 10, 0), -1);
        c.days(5);
        Due.is("15: ended ones were made, too", c.lend(0, 2, 10, 9), -3);
        Due.is("15: count(3)", c.count(3), 6);
        ClockForTalk d = Due.town("0:999;3:10", "");
        d.days(10);
        Due.is("15: DAY itself", d.lend(0, 1, 999, 10), -4);
        Due.is("15: the day behind, 999 seconds", d.lend(0, 1, 999, 11), 0);
        d.sheet(2, 2, 9990, 0);
        Due.is("15: 9999 at most", d.lend(0, 1, 100, 11), 1);
        Due.is("15: what is more is gone", d.person(1, 1), 9999);
        Due.is("15: owed is all of it", d.loan(1, 2), 100);
    }

    private static void days() {
        Due.of("Promise 16", "n DAYS (0 .. 99) go by: DAY; the ROW: how many LOANS ended in these, what was lost in these.");
        ClockForTalk c = Due.town("0:100;3:10;5:20", "");
        Due.is("16: none", c.days(0), 0);
        Due.row("16: none", c, 0, 0);
        Due.is("16: 99", c.days(99), 99);
        Due.of("Promise 16", "NONE: another n.");
        Due.is("16: 100", c.days(100), -1);
        Due.is("16: -1", c.days(-1), -1);
        Due.row("16: the row stays", c, 0, 0);
        Due.is("16: count(2)", c.count(2), 99);

        Due.of("Terms 1", "(3) Of each LOAN (by numbers) whose DUE is DAY: as much of OWED as the CLOCK of who owes has goes to the CLOCK of who lent (9999 at most there); the LOAN has ended; LOSS of who lent is more by what was not paid.");
        ClockForTalk l = Due.town("0:100;3:10;5:20", "");
        l.lend(0, 1, 50, 30);
        l.lend(2, 1, 20, 31);
        l.sheet(2, 3, 40, 0);
        Due.is("16: to the month", l.days(29), 29);
        Due.row("16: nothing ended", l, 0, 0);
        Due.is("16: the interest is ahead of what is due", l.days(1), 30);
        // 50 and a tenth are 55, of which 40 are there.
        Due.row("16: one ended, 15 were lost", l, 1, 15);
        Due.is("16: who lent has 40 more", l.person(0, 1), 80);
        Due.is("16: who owes has nothing", l.person(1, 1), 0);
        Due.is("16: LOSS", l.person(0, 6), 15);
        Due.is("16: the other loan grew by a tenth", l.loan(1, 2), 22);
        l.give(0, 1, 30);
        l.days(1);
        Due.row("16: paid in full", l, 1, 0);
        Due.is("16: what is left", l.person(1, 1), 8);
        Due.is("16: who lent", l.person(2, 1), 62);

        ClockForTalk o = Due.town("0:100;3:100;5:100", "");
        o.lend(0, 1, 50, 5);
        o.lend(1, 2, 30, 5);
        o.lend(2, 0, 80, 5);
        o.sheet(2, 3, 0, 0);
        o.give(0, 1, 1);
        o.sheet(2, 3, 10, 0);
        o.days(9);
        // By numbers: b pays a 10; then c pays b 10; then a pays c the 20 that it has.
        Due.row("16: three ended", o, 3, 40 + 20 + 60);
        Due.is("16: a", o.person(0, 1), 0);
        Due.is("16: b", o.person(1, 1), 10);
        Due.is("16: c", o.person(2, 1), 20);

        ClockForTalk m = Due.town("0:100;3:100", "");
        m.lend(0, 1, 100, 3);
        m.sheet(2, 2, 9950, 0);
        m.days(3);
        Due.is("16: 9999 at most", m.person(0, 1), 9999);
        Due.is("16: all of it was paid", m.person(1, 1), 9850);
        Due.row("16: nothing was lost", m, 1, 0);

        Due.of("Terms 1", "(2) If it is a multiple of 30, of each LOAN that has not ended, OWED is a tenth (cut) more.");
        ClockForTalk t = Due.town("0:999;3:999", "");
        t.lend(0, 1, 999, 95);
        t.days(94);
        // 999, 1098, 1207, 1327.
        Due.is("16: three months", t.loan(0, 2), 1327);
    }

    private static void newYear() {
        Due.of("Terms 1", "(4) If DAY is a multiple of 100 (New Year): each CLOCK is YEARLY; all THINGS that were SAID are to be said again.");
        ClockForTalk c = Due.town("0:100;3:10", "ab9-99=5;ba3-2=1");
        c.say(0, 2);
        c.lend(0, 1, 50, 100);
        c.lend(0, 1, 20, 150);
        c.sheet(2, 2, 7, 0);
        c.days(99);
        Due.is("16: the day ahead of New Year", c.person(0, 1), 7);
        Due.is("16: still SAID", c.count(4), 1);
        Due.is("16: New Year", c.days(1), 100);
        // 50, 55, 60, 66 were owed, 7 there were paid: then all clocks are set.
        Due.row("16: the loan is due ahead of it", c, 1, 59);
        Due.is("16: CLOCK is YEARLY", c.person(0, 1), 100);
        Due.is("16: of the other, too", c.person(1, 1), 10);
        Due.is("16: SPENT", c.person(0, 3), 0);
        Due.is("16: to be said again", c.count(4), 0);
        Due.is("16: LOSS stays", c.person(0, 6), 59);
        Due.is("16: a loan that has not ended stays", c.loan(1, 4), 0);
        Due.is("16: BY is asked by DAY by 100", c.count(5), 3);
        Due.of("Terms 2", "BY is asked by DAY by 100 (rest): a THING can be said, if that is BY or less.");
        ClockForTalk b = Due.town("0:100;3:10", "ab9-98=5;ba3-99=1;ba3-0=1");
        b.days(99);
        Due.is("13: DAY 99 is behind BY 98", b.say(0, 2), -3);
        Due.is("40: BY 99 is not too late", b.count(5), 2);
        b.days(1);
        Due.is("40: DAY 100 is asked as 0", b.count(5), 7);
        b.days(1);
        Due.is("40: DAY 101 is asked as 1", b.count(5), 3);
        c.days(3);
        Due.is("16: too late then", c.count(5), 1);
    }

    private static void talk() {
        Due.of("Promise 17", "they are done one by one, till one can't be (it answers below 0; a THING that is not there): how many were done; the ROW: 1 if one could not be, else 0; what all that was said cost.");
        ClockForTalk c = Due.town("5:40;6:10;20:100", "ab10-9=5;ac20-5=8;ba9-9=4;cb30-50=9");
        Due.is("17: an empty one", c.talk(), 0);
        Due.row("17: an empty one", c, 0, 0);
        Due.is("17: nothing to undo", c.count(9), 0);
        Due.is("17: all", Due.talk(c, "b0;s13;gca009;d2;b2"), 1);
        // b0 costs 4, then s13 costs 40 of 36 that are left.
        Due.row("17: the second can't be", c, 1, 4);
        Due.is("17: those behind are not done", c.count(2), 0);
        Due.is("17: those ahead stay done", c.count(4), 1);
        Due.is("17: one act is undone", c.undo(), 0);
        Due.is("17: as ahead of it", c.person(0, 1), 40);
        Due.is("17: all of six", Due.talk(c, "gca9;b0;s13;d2;b2;b3"), 6);
        Due.row("17: all were done", c, 0, 4 + 40 + 3 + 60);
        Due.is("17: DAY", c.count(2), 2);
        Due.is("17: as one", c.count(9), 1);
        Due.is("17: undone", c.undo(), 0);
        Due.is("17: DAY is back", c.count(2), 0);
        Due.is("17: no such thing, b", Due.talk(c, "d0;b4;d9"), 1);
        Due.row("17: no such thing, b", c, 1, 0);
        Due.is("17: no such thing, s", Due.talk(c, "d0;s40;d9"), 1);
        Due.row("17: no such thing, s", c, 1, 0);
        Due.is("17: d0 was done, so it can be undone", c.count(9), 2);
        Due.is("17: thing 9, b", Due.talk(c, "b9"), 0);
        Due.row("17: thing 9, b", c, 1, 0);
        Due.is("17: thing 9, s", Due.talk(c, "s93;d1"), 0);
        Due.row("17: thing 9, s", c, 1, 0);
        Due.is("17: nobody to give to", Due.talk(c, "gaf1"), 0);
        Due.row("17: nobody to give to", c, 1, 0);
        Due.is("17: none done, none to undo", c.count(9), 2);
        Due.is("17: too much to give", Due.talk(c, "gba10;gba1"), 1);
        Due.is("17: nothing to give", Due.talk(c, "gab0"), 0);
        Due.is("17: like ones", Due.talk(c, "gaa1"), 0);
        Due.is("17: days to New Year", Due.talk(c, "d99;d1"), 2);
        Due.is("17: DAY 100", c.count(2), 100);
        Due.is("17: clocks are set", c.person(0, 1), 40);
    }

    private static void talkWrong() {
        Due.of("Promise 17", "-1 - p: the sign at p can't stand there (as people(); 60 signs); nothing is done then.");
        ClockForTalk c = Due.town("5:40;6:10;20:100", "ab10-9=5;ac20-5=8;ba9-9=4;cb30-50=9");
        c.pool();
        String[] texts = {"x", "s", "s0", "s04", "sa0", "b", "bx", "b00", "g", "ga", "gab", "gah1", "gg1", "gabx", "gab1234", "d", "dx", "d123",
            "b0;", "b0;;", ";", "b0,b1", "b0;x", "S00", "s000",
            "s/0", "s:0", "b/", "b:", "s0/", "g`b1", "ga`1", "gagb", "d/", "gab/", "gab:"};
        int[] due = {-1, -2, -3, -3, -2, -2, -2, -3, -2, -3, -4, -3, -2, -4, -7, -2, -2, -4,
            -4, -4, -1, -3, -4, -1, -4,
            -2, -2, -2, -2, -3, -2, -3, -3, -2, -4, -4};
        for (int i = 0; i < texts.length; i++) Due.is("17: " + texts[i], Due.talk(c, texts[i]), due[i]);
        Due.is("17: nothing was done", c.count(4), 0);
        Due.is("17: the text is empty", c.count(11), 0);
        Due.row("17: the row stays", c, 15, 107);
        Due.is("17: twenty acts of 59 signs", Due.talk(c, Due.times("d1;", 19) + "d1"), 20);
        Due.is("17: 60 signs", Due.talk(c, Due.times("d1;", 19) + "d01"), 20);
        Due.is("17: 61 signs", Due.talk(c, Due.times("d1;", 20) + "d"), -61);
        Due.is("17: 62 signs", Due.talk(c, Due.times("d1;", 20) + "d1"), -61);
        Due.is("17: 60 signs that end too early", Due.talk(c, Due.times("d1;", 20)), -61);
        Due.is("17: 80 signs, the 59th can't stand", Due.talk(c, Due.times("d1;", 19) + "dx" + Due.times("d1;", 7)), -59);
        Due.is("17: DAY", c.count(2), 40);
    }

    private static void undo() {
        Due.of("Promise 18", "The latest say(), give(), lend(), days(), talk() (of 12 that are kept, the latest ones; such as were done; days() of 1 and more, talk() of which one ACT was done, as one) is undone (DAY, CLOCKS, SPENT, LOANS, LOSS, what was SAID are as ahead of it): how many are left that can be.");
        ClockForTalk c = Due.town("5:40;6:10;20:100", "ab10-9=5;ac20-5=8");
        Due.is("18: nothing yet", c.undo(), -1);
        c.say(0, 1);
        c.give(2, 1, 50);
        c.lend(2, 0, 20, 1);
        c.days(1);
        Due.is("18: four", c.count(9), 4);
        Due.is("18: ended", c.loan(0, 4), 1);
        Due.is("18: days()", c.undo(), 3);
        Due.is("18: DAY", c.count(2), 0);
        Due.is("18: the loan", c.loan(0, 4), 0);
        Due.is("18: lend()", c.undo(), 2);
        Due.is("18: no loan", c.count(3), 0);
        Due.is("18: the clock", c.person(2, 1), 50);
        Due.is("18: give()", c.undo(), 1);
        Due.is("18: the clock", c.person(2, 1), 100);
        Due.is("18: say()", c.undo(), 0);
        Due.is("18: SAID", c.count(4), 0);
        Due.is("18: SPENT", c.person(0, 3), 0);
        Due.is("18: none", c.undo(), -1);

        c.say(0, 0);
        c.move(0, 50);
        c.sheet(2, 3, 1, 0);
        Due.rule(c, "5");
        Due.is("18: clocks as ahead of say()", c.undo(), 0);
        Due.is("18: the clock", c.person(0, 1), 40);
        Due.is("18: one who moved stays", c.person(0, 0), 50);
        Due.is("18: THE RULE stays", c.cost(0, 3), 5);

        c.say(0, 9);
        c.give(0, 0, 1);
        c.lend(0, 0, 1, 1);
        c.days(0);
        c.days(100);
        Due.talk(c, "b9");
        c.talk();
        Due.is("18: such as were not done are not kept", c.count(9), 0);
        c.lend(1, 0, 10, 7);
        c.sheet(3, 0, 0, 0);
        c.days(7);
        Due.is("18: LOSS", c.person(1, 6), 10);
        c.undo();
        Due.is("18: LOSS is as ahead", c.person(1, 6), 0);
    }

    private static void undoOrder() {
        Due.of("Promise 18", "(of 12 that are kept, the latest ones; such as were done; days() of 1 and more, talk() of which one ACT was done, as one)");
        ClockForTalk c = Due.town("5:40;6:10", "ab10-9=5");
        for (int i = 1; i <= 15; i++) c.give(0, 1, 1);
        Due.is("18: 12 are kept", c.count(9), 12);
        Due.is("18: eleven are left", c.undo(), 11);
        Due.is("18: the latest one first", c.person(0, 1), 26);
        c.days(1);
        Due.is("18: twelve again", c.count(9), 12);
        for (int i = 11; i >= 0; i--) Due.is("18: back to " + i, c.undo(), i);
        Due.is("18: the elder ones are not kept", c.person(0, 1), 37);
        Due.is("18: none", c.undo(), -1);
        c.give(0, 1, 1);
        Due.of("Promise 18", "(people(), things() and again() forget them, if they are not refused; empty ones do not.)");
        Due.is("18: an empty people()", c.people(), 0);
        Due.is("18: forgets nothing", c.count(9), 1);
        Due.is("18: an empty things()", c.things(), 0);
        Due.is("18: nor does a refused one", Due.things(c, "x"), -1);
        Due.is("18: nor a refused people()", Due.people(c, "1:1;"), -5);
        Due.is("18: still", c.count(9), 1);
        Due.is("18: things()", Due.things(c, "ab1-1=1"), 1);
        Due.is("18: forgets them", c.count(9), 0);
        c.give(0, 1, 1);
        Due.is("18: people()", Due.people(c, "1:1"), 1);
        Due.is("18: forgets them, too", c.undo(), -1);
        c.keep(0);
        c.give(0, 1, 1);
        Due.is("18: a refused again()", c.again(1), false);
        Due.is("18: forgets nothing", c.count(9), 1);
        c.again(0);
        Due.is("18: again() forgets them", c.undo(), -1);
    }
}
