/** Promises 24 and 25: relay, criers. */
public final class WordPassedOnTest {
    public static void main(String[] args) {
        relay();
        relayRows();
        criers();
        criersRule();
        Due.finish();
    }

    private static void relay() {
        Due.of("Promise 24", "The least COST in all by which a word comes from one to another one, or the same, each who speaks paying by its own CLOCK, nobody twice: how much; the ROW: those it goes by in turn, both too: of as cheap ones the least row. -2: it can't be; NONE: others.");
        // 0, 3, 6, 9: each three from the next, so sung a third, nine loud, else shouted.
        ClockForTalk c = Due.town("0:40;3:40;6:40;9:40;30:9", "");
        Due.is("24: sung to the next", c.relay(0, 1, 9), 3);
        Due.row("24: sung to the next", c, 0, 1);
        Due.is("24: loud costs as much as three songs", c.relay(0, 3, 9), 9);
        Due.row("24: of as cheap ones the least row", c, 0, 1, 2, 3);
        Due.is("24: one second, sung once or loud", c.relay(0, 2, 1), 1);
        Due.row("24: loud at once", c, 0, 2);
        Due.is("24: shouted", c.relay(0, 4, 9), 18);
        Due.row("24: shouted by a at once, for it is the least", c, 0, 4);
        Due.is("24: e has 9 and needs 18", c.relay(4, 0, 9), -2);
        Due.row("24: the row stays", c, 0, 4);
        Due.is("24: to the same", c.relay(2, 2, 99), 0);
        Due.row("24: one is in it", c, 2);
        Due.is("24: n 0", c.relay(0, 1, 0), -1);
        Due.is("24: n 100", c.relay(0, 1, 100), -1);
        Due.is("24: to nobody", c.relay(0, 5, 9), -1);
        Due.is("24: from nobody", c.relay(-1, 0, 9), -1);
        Due.row("24: the row stays with NONE", c, 2);
        Due.is("24: 99 seconds sung", c.relay(0, 1, 99), 33);
        c.sheet(2, 5, 32, 0);
        Due.is("24: a clock that has less", c.relay(0, 1, 99), -2);
        Due.is("24: nobody pays for another", c.relay(0, 1, 97), -2);
        Due.is("24: just enough", c.relay(0, 1, 96), 32);
    }

    private static void relayRows() {
        Due.of("Promise 24", "the ROW: those it goes by in turn, both too: of as cheap ones the least row.");
        ClockForTalk c = Due.town("0:40;3:40;6:1;9:40;6:40", "");
        // c can't pay its own part, so e passes it on.
        Due.is("24: round one who can't pay", c.relay(0, 3, 9), 9);
        Due.row("24: round one who can't pay", c, 0, 1, 4, 3);
        Due.rule(c, "l+s");
        Due.is("24: s and l count", c.relay(0, 1, 9), 12);
        Due.rule(c, "5*(s>3)+(w=0)+w");
        Due.is("24: the way that is heard and costs the least", c.relay(0, 1, 9), 1);
        Due.rule(c, "5");
        Due.is("24: one speaks", c.relay(0, 3, 9), 5);
        Due.row("24: one speaks", c, 0, 3);
        Due.rule(c, "0");
        Due.is("24: for nothing", c.relay(4, 0, 9), 0);
        Due.row("24: of as cheap ones the least row, straight", c, 4, 0);
        Due.is("24: all are gone through if that is the least row", c.relay(0, 4, 9), 0);
        Due.row("24: all are gone through", c, 0, 1, 2, 3, 4);
        Due.rule(c, "c-39");
        Due.is("24: c is the clock of who speaks", c.relay(0, 3, 9), 1);
        Due.row("24: who has 1 speaks for nothing", c, 0, 2, 3);
    }

    private static void criers() {
        Due.of("Promise 25", "The fewest who must speak so that all PEOPLE told as bits know a word that one knows at first, each who speaks (knowing it) once, by one WAY that its CLOCK can pay (s is 0 for THE RULE); who lives where it is heard knows it then: how many (0: nobody needs to); the ROW: they (bits: of as few the least). -2: it can't be; NONE: others.");
        // a reaches b, and c and d sung from b; e is far.
        ClockForTalk c = Due.town("0:10;3:10;6:10;9:10;40:10", "");
        Due.is("25: nobody needs to", c.criers(0, 1, 9), 0);
        Due.row("25: nobody needs to", c, 0);
        Due.is("25: for none", c.criers(2, 0, 9), 0);
        Due.is("25: loud reaches all but e", c.criers(0, 15, 9), 1);
        Due.row("25: a", c, 1);
        Due.is("25: e can't be reached", c.criers(0, 16, 9), -2);
        Due.row("25: the row stays", c, 1);
        Due.is("25: e, with 5 seconds shouted", c.criers(0, 31, 5), 1);
        c.sheet(2, 5, 3, 0);
        // Nine seconds: sung is all they can pay.
        Due.is("25: from one to the next", c.criers(0, 15, 9), 3);
        Due.row("25: a, b, c", c, 7);
        Due.is("25: from the middle", c.criers(1, 15, 9), 2);
        Due.row("25: b, c", c, 6);
        Due.is("25: one who hears need not speak", c.criers(1, 5, 9), 1);
        Due.row("25: b", c, 2);
        c.sheet(2, 5, 2, 0);
        Due.is("25: nobody can pay", c.criers(0, 2, 9), -2);
        Due.is("25: who knows it needs nobody", c.criers(0, 1, 9), 0);
        c.sheet(2, 1, 10, 0);
        Due.is("25: a alone can pay", c.criers(0, 15, 9), 1);
        Due.is("25: from b it can't be", c.criers(1, 15, 9), -2);
        Due.is("25: nobody", c.criers(5, 1, 9), -1);
        Due.is("25: nobody, ahead", c.criers(-1, 1, 9), -1);
        Due.is("25: bits of nobody", c.criers(0, 32, 9), -1);
        Due.is("25: below 0", c.criers(0, -1, 9), -1);
        Due.is("25: n 0", c.criers(0, 1, 0), -1);
        Due.is("25: n 100", c.criers(0, 1, 100), -1);
        Due.row("25: the row stays with NONE", c, 1);
        Due.is("25: n 99 for none", c.criers(0, 0, 99), 0);
        Due.is("25: n 1", c.criers(0, 2, 1), 1);
        Due.is("24: n 1", c.relay(0, 1, 1), 1);
    }

    private static void criersRule() {
        Due.of("Promise 25", "by one WAY that its CLOCK can pay (s is 0 for THE RULE); who lives where it is heard knows it then");
        // a, b and c at one place, d far: any of the two may shout, the least bits are told.
        ClockForTalk c = Due.town("0:0;0:50;0:50;50:0", "");
        Due.rule(c, "(w=3)*50");
        Due.is("25: a whispers for nothing, b shouts", c.criers(0, 8, 9), 2);
        Due.row("25: the least bits", c, 3);
        Due.rule(c, "s+(w=3)*50");
        Due.is("25: s is 0", c.criers(1, 8, 9), 1);
        Due.rule(c, "50-s*9");
        Due.is("25: s is not below 0", c.criers(1, 8, 9), 1);
        Due.rule(c, "h*20+1");
        Due.is("25: h counts those who hear", c.criers(1, 4, 9), 1);
        Due.rule(c, "51-(w=2)");
        Due.is("25: loud alone can be paid", c.criers(1, 5, 9), 1);
        Due.row("25: b", c, 2);
        Due.is("25: d lives too far for it", c.criers(1, 8, 9), -2);
        Due.rule(c, "w*60");
        Due.is("25: whispered alone can be paid", c.criers(1, 5, 9), 1);
        Due.row("25: b whispers", c, 2);
        Due.is("25: nobody but those at one place hear it", c.criers(1, 15, 9), -2);
        Due.rule(c, "l");
        Due.is("25: l seconds", c.criers(1, 8, 50), 1);
        Due.is("25: one more", c.criers(1, 8, 51), -2);
    }
}
