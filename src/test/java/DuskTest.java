/** Promises 31 to 34: read, forget, spoke, look. */
public final class DuskTest {
    public static void main(String[] args) {
        readAndForget();
        spoke();
        spokeNow();
        look();
        Due.finish();
    }

    private static void readAndForget() {
        Due.of("Promise 31", "how many were read (one of the same person takes the place of the elder). Refused: others.");
        ClockForTalk c = Due.town("0:40;0:10;5:7", "");
        Due.is("31: one", c.read(1, 9), 1);
        Due.is("31: bits", c.count(8), 2);
        Due.is("31: another", c.read(0, 0), 2);
        Due.is("31: the same again", c.read(1, 9999), 2);
        Due.is("31: 10000", c.read(2, 10000), -1);
        Due.is("31: -1", c.read(2, -1), -1);
        Due.is("31: nobody", c.read(3, 5), -1);
        Due.is("31: nobody, ahead", c.read(-1, 5), -1);
        Due.is("31: bits stay", c.count(8), 3);
        Due.is("31: the clock stays", c.person(1, 1), 10);
        Due.of("Promise 32", "They are forgotten: how many there were.");
        Due.is("32: two", c.forget(), 2);
        Due.is("32: none then", c.forget(), 0);
        Due.is("32: bits", c.count(8), 0);
        Due.is("32: not read", c.spoke(1), -2);
        Due.is("31: from 0", c.read(2, 3), 1);
    }

    private static void spoke() {
        Due.of("Promise 33", "Sets of THINGS of one that explain what was read (0: nothing was said): how many; the ROW: the least bits (NONE), THINGS that are in all of them (0 without). -2: its CLOCK was not read; NONE: none such.");
        // At one place: 5, 4, 10, 20 of the first; 3, 2, 6, 12 of the second.
        ClockForTalk c = Due.town("0:40;0:10;50:20", "ab10-9=5;ab6-9=8;ca7-9=1");
        c.read(0, 40);
        Due.is("33: nothing was said", c.spoke(0), 1);
        Due.row("33: nothing was said", c, 0, 0);
        c.read(0, 36);
        // 4 is the first, sung.
        Due.is("33: four", c.spoke(0), 1);
        Due.row("33: four", c, 1, 1);
        c.read(0, 28);
        // 12: the second shouted, or the first loud (10) and the second sung (2).
        Due.is("33: twelve", c.spoke(0), 2);
        Due.row("33: twelve", c, 2, 2);
        c.read(0, 30);
        // 10: the first loud, or 4 and 6.
        Due.is("33: ten", c.spoke(0), 2);
        Due.row("33: ten", c, 1, 1);
        c.read(0, 8);
        // 32: 20 and 12.
        Due.is("33: thirty-two", c.spoke(0), 1);
        Due.row("33: thirty-two", c, 3, 3);
        c.read(0, 39);
        Due.is("33: one second can't be", c.spoke(0), 0);
        Due.row("33: NONE, 0", c, -1, 0);
        c.read(0, 41);
        Due.is("33: more than it has", c.spoke(0), 0);
        Due.row("33: NONE, 0 again", c, -1, 0);
        Due.is("33: b was not read", c.spoke(1), -2);
        Due.is("33: nobody", c.spoke(3), -1);
        Due.is("33: nobody, ahead", c.spoke(-1), -1);
        Due.row("33: the row stays", c, -1, 0);
        c.read(1, 10);
        Due.is("33: b has nothing to say", c.spoke(1), 1);
        Due.row("33: b has nothing to say", c, 0, 0);
        c.read(2, 6);
        Due.is("33: c can only shout", c.spoke(2), 1);
        Due.row("33: c shouted", c, 4, 4);
        c.read(2, 13);
        Due.is("33: loud is not heard", c.spoke(2), 0);
    }

    private static void spokeNow() {
        Due.of("Promise 31", "behind a day in which it said some of its THINGS that can be said now, each by some WAY that is heard (COST by the CLOCK as it is now), and nothing else");
        ClockForTalk c = Due.town("0:40;0:10", "ab9-9=5;ab9-9=8;ab9-3=1");
        c.read(0, 37);
        // Three seconds: each of the three, sung.
        Due.is("33: three of them", c.spoke(0), 3);
        Due.row("33: none is in all", c, 1, 0);
        c.days(4);
        Due.is("33: those that can be said now", c.spoke(0), 2);
        Due.row("33: two of them", c, 1, 0);
        c.say(1, 1);
        Due.is("33: from the clock as it is now", c.spoke(0), 1);
        Due.row("33: nothing since", c, 0, 0);
        c.read(0, 34);
        Due.is("33: one is left", c.spoke(0), 1);
        Due.row("33: one is left", c, 1, 1);
        Due.rule(c, "0");
        c.read(0, 37);
        Due.is("33: for nothing, said or not", c.spoke(0), 2);
        Due.row("33: for nothing", c, 0, 0);
        byWords();
        // Sums above 63 and 64 seconds, and the most there can be.
        ClockForTalk m = Due.town("0:0;0:0", Due.times("ab99-9=1;", 7) + "ab99-9=1");
        m.sheet(2, 2, 9999, 0);
        Due.rule(m, "999-w*64");
        m.read(0, 9999 - 999);
        Due.is("33: one of eight", m.spoke(0), 8);
        Due.row("33: one of eight", m, 1, 0);
        m.read(0, 9999 - 999 * 8);
        Due.is("33: all", m.spoke(0), 1);
        Due.row("33: all", m, 255, 255);
        m.read(0, 9999 - 999 * 8 + 64);
        Due.is("33: all, one sung", m.spoke(0), 1);
        m.read(0, 9999 - 999 * 8 + 63);
        Due.is("33: a second beside", m.spoke(0), 0);
        m.read(0, 0);
        Due.is("33: too much", m.spoke(0), 0);
        Due.row("33: too much", m, -1, 0);
        Due.is("34: 0 to 3 times 64 less of each number said", m.look(), 1);
        m.forget();
        Due.is("34: a", m.look(), 0);
        // With j said: 999 j less 64 times 0 .. 3 j.
        Due.row("34: 1 + 4 + 7 + .. + 25", m, 117);
    }

    private static void byWords() {
        Due.of("Promise 33", "Sets of THINGS of one that explain what was read (0: nothing was said): how many");
        // l seconds loud, nine steps apart; shouted is dearer than any clock: sums beside 64 and its multiples.
        ClockForTalk c = Due.town("0:500;9:10", "ab63-9=1;ab1-9=1;ab64-9=1;ab65-9=1;ab2-9=1");
        Due.rule(c, "l+(w=3)*900");
        int[] sums = {0, 1, 2, 3, 4, 62, 63, 64, 65, 66, 67, 68, 126, 127, 128, 129, 130, 131, 132, 192, 193, 194, 195, 196};
        int[] sets = {1, 1, 1, 1, 0, 0, 1, 2, 3, 3, 2, 1, 0, 1, 2, 3, 3, 2, 1, 1, 1, 1, 1, 0};
        for (int i = 0; i < sums.length; i++) {
            c.read(0, 500 - sums[i]);
            Due.is("33: " + sums[i] + " seconds", c.spoke(0), sets[i]);
        }
        c.read(0, 501);
        Due.is("33: a second more than it has", c.spoke(0), 0);
        c.read(0, 500 + 63);
        Due.is("33: 63 more than it has", c.spoke(0), 0);
        c.read(0, 500 + 64);
        Due.is("33: 64 more than it has", c.spoke(0), 0);
        c.forget();
        Due.is("34: a", c.look(), 0);
        Due.row("34: 0 1 2 3, 63 to 68, 127 to 132, 192 to 195", c, 20);
        // 128 less than a sum of 128, and what costs 64 or 128 alone.
        Due.rule(c, "128+(w=3)*800");
        c.read(0, 372);
        Due.is("33: 128 each", c.spoke(0), 5);
        Due.rule(c, "64+(w=3)*800");
        c.read(0, 436);
        Due.is("33: 64 each", c.spoke(0), 5);
        c.read(0, 500);
        Due.is("33: nothing was said", c.spoke(0), 1);
    }

    private static void look() {
        Due.of("Promise 34", "The one of PEOPLE whose CLOCK was not read and could show the most different seconds (behind such a day; sets that its CLOCK can pay): of equal ones the first: it; the ROW: how many. -2: all were read, nobody is there.");
        ClockForTalk c = Due.town("0:40;0:10;0:12", "ab10-9=5;ba6-9=8;ca10-9=1");
        // a: 0, 4, 5, 10, 20; b: 0, 2, 3, 6 (12 is more than it has); c: 0, 4, 5, 10.
        Due.is("34: a", c.look(), 0);
        Due.row("34: five", c, 5);
        c.read(0, 1);
        Due.is("34: of equal ones the first", c.look(), 1);
        Due.row("34: four", c, 4);
        c.sheet(2, 3, 20, 0);
        Due.is("34: c has 20 now, so has b 12 of 5", c.look(), 1);
        Due.row("34: five", c, 5);
        c.read(1, 1);
        Due.is("34: c", c.look(), 2);
        c.sheet(2, 3, 0, 0);
        Due.is("34: an empty clock shows one", c.look(), 2);
        Due.row("34: one", c, 1);
        c.read(2, 1);
        Due.is("34: all were read", c.look(), -2);
        Due.row("34: the row stays", c, 1);
        Due.is("34: nobody", new ClockForTalk().look(), -2);
        ClockForTalk e = Due.town("0:40;0:10", "ab10-9=5;ab20-9=5");
        // 0, 4, 5, 10, 20 and 0, 7, 10, 20, 40: sums to 40.
        e.say(1, 1);
        Due.is("34: SAID", e.look(), 0);
        Due.row("34: one thing alone", e, 5);
        e.days(10);
        Due.is("34: too late", e.look(), 0);
        Due.row("34: too late", e, 1);
        ClockForTalk s = Due.town("0:40;0:10", "ab10-9=5;ab10-9=5");
        // 0 4 5 10 20 | 8 9 14 24 | 15 25 | 30 | 40: ten twice is 20 again.
        Due.is("34: two alike", s.look(), 0);
        Due.row("34: different seconds", s, 13 - 1 + 1);
    }
}
