/** Promises 28 to 30, sentence by sentence. */
final class EdgesOfWordings {
    private EdgesOfWordings() { }

    static void run() {
        grammar();
        grammarWrong();
        shorter();
        becomes();
        wordingsWrong();
    }

    private static void grammar() {
        Due.of("Promise 28", "THE TEXT is THE GRAMMAR (an empty one: none; at most 10 LINES with ; between): each two letters a .. g, >, a letter a .. g: what two words may become: how many LINES.");
        ClockForTalk c = new ClockForTalk();
        Due.is("one of the first and last letters", Due.grammar(c, "ag>g"), 1);
        Due.is("by it", Due.becomes(c, "ag"), 64);
        Due.is("another order", Due.becomes(c, "ga"), 0);
        Due.is("ten", Due.grammar(c, Due.times("gg>a;", 9) + "aa>b"), 10);
        Due.is("count(7)", c.count(7), 10);
        Due.is("the first of ten", Due.becomes(c, "gg"), 1);
        Due.is("the tenth", Due.becomes(c, "gggg"), 2);
        Due.is("the elder is gone", Due.becomes(c, "ag"), 0);
        Due.is("two for the same words", Due.grammar(c, "ab>c;ab>d"), 2);
        Due.is("both may be", Due.becomes(c, "ab"), 12);
        Due.is("an empty one", c.grammar(), 0);
        Due.is("none", c.count(7), 0);
        Due.is("by none", Due.becomes(c, "ab"), 0);
    }

    private static void grammarWrong() {
        Due.of("Promise 28", "-1 - p: the sign at p can't stand there (its end, if it ends too early; the first sign of an eleventh LINE).");
        String[] texts = {"h", "`", "A", "1", ">", ";", "a", "ah", "a>", "ab", "abc", "ab-", "ab>", "ab>h", "ab>;", "ab>c,", "ab>cd", "ab>c;", "ab>c;;", "ab>c;h", "ab>c;a", "ab>c;ab", "ab>c;ab>"};
        int[] due = {-1, -1, -1, -1, -1, -1, -2, -2, -2, -3, -3, -3, -4, -4, -4, -5, -5, -6, -6, -6, -7, -8, -9};
        for (int i = 0; i < texts.length; i++) Due.refusedText("grammar()", texts[i], due[i], c -> c.grammar());
        String ten = Due.times("ab>c;", 10);
        Due.refusedText("grammar()", ten, -51, c -> c.grammar());
        Due.refusedText("grammar()", ten + "ab>c", -51, c -> c.grammar());
        Due.refusedText("grammar()", ten + "x", -51, c -> c.grammar());
        Due.refusedText("grammar()", ten + ten.substring(0, 30), -51, c -> c.grammar());
        Due.refusedText("grammar()", ten.substring(0, 49) + "x", -50, c -> c.grammar());
        ClockForTalk c = Due.busy();
        Due.grammar(c, "ab>d;x");
        Due.is("a refused one leaves THE GRAMMAR", Due.becomes(c, "ab"), 4);
    }

    private static void shorter() {
        Due.of("Promise 29", "THE TEXT is a wording (1 to 14 letters a .. g, a second each): the fewest letters that it can become: how many; the ROW: the letters then (0: a, ..): of as few the least row.");
        ClockForTalk c = new ClockForTalk();
        Due.is("one letter", Due.shorter(c, "a"), 1);
        Due.row("one letter", c, 0);
        Due.is("fourteen without THE GRAMMAR", Due.shorter(c, "gggggggggggggg"), 14);
        Due.row("fourteen without THE GRAMMAR", c, 6, 6, 6, 6, 6, 6, 6, 6, 6, 6, 6, 6, 6, 6);
        Due.grammar(c, "gg>g");
        Due.is("fourteen to one", Due.shorter(c, "gggggggggggggg"), 1);
        Due.row("fourteen to one", c, 6);
        Due.is("what is between keeps them apart", Due.shorter(c, "ggaggaggaggagg"), 9);
        Due.row("what is between keeps them apart", c, 6, 0, 6, 0, 6, 0, 6, 0, 6);
        Due.grammar(c, "aa>b;ab>c;ba>d");
        Due.is("aab: cb, or ac", Due.shorter(c, "aab"), 2);
        Due.row("a c is ahead of b b", c, 0, 2);
        Due.is("aaa: c (a aa) or d (aa a)", Due.shorter(c, "aaa"), 1);
        Due.row("c is ahead of d", c, 2);
        String[] grammars = {"ab>g;bc>a", "gb>a;bc>a", "ab>a;bc>g", "ab>a;bc>a"};
        String[] wordings = {"abc", "gbc", "abc", "abc"};
        int[][] rows = {{0, 0}, {0, 2}, {0, 2}, {0, 0}};
        for (int i = 0; i < rows.length; i++) {
            Due.grammar(c, grammars[i]);
            Due.is(wordings[i] + " by " + grammars[i], Due.shorter(c, wordings[i]), 2);
            Due.row(wordings[i] + " by " + grammars[i], c, rows[i]);
        }
        Due.grammar(c, "bc>a;ab>g;gc>g");
        Due.is("fewer letters are ahead of lesser ones: g, not aa", Due.shorter(c, "abc"), 1);
        Due.row("g", c, 6);
    }

    private static void becomes() {
        Due.of("Promise 30", "THE TEXT is a wording: letters (bits) that all of it can become, alone.");
        ClockForTalk c = Due.busy();
        Due.is("one letter", Due.becomes(c, "g"), 64);
        Due.is("two by THE GRAMMAR", Due.becomes(c, "ab"), 4);
        Due.is("two that can't", Due.becomes(c, "ba"), 0);
        Due.is("a part is not all", Due.becomes(c, "aba"), 0);
        Due.grammar(c, "aa>b;ab>c;ba>d;cc>g");
        Due.is("three, two ways", Due.becomes(c, "aaa"), 12);
        Due.is("six", Due.becomes(c, "aaaaaa"), 64);
        Due.grammar(c, "aa>a;aa>b;aa>c;aa>d;aa>e;aa>f;aa>g");
        Due.is("fourteen, all letters", Due.becomes(c, Due.times("a", 14)), 127);
        Due.grammar(c, "aa>a");
        Due.is("fourteen, of which one can't", Due.becomes(c, Due.times("a", 13) + "b"), 0);
        Due.row("it tells no ROW", c, 12, 63);
    }

    private static void wordingsWrong() {
        String[] texts = {"", "h", "`", "A", "1", ";", "ah", "a b", "abcdefgh", Due.times("a", 13) + "h", Due.times("a", 14) + "h", Due.times("a", 15), Due.times("a", 14) + ";", Due.times("a", 80),
            Due.times("a", 15) + "h"};
        int[] due = {-1, -1, -1, -1, -1, -1, -2, -2, -8, -14, -15, -15, -15, -15, -15};
        Due.of("Promise 29", "-1 - p: the sign at p can't stand there (its end for none; a fifteenth sign: at it).");
        for (int i = 0; i < texts.length; i++) Due.refusedText("shorter()", texts[i], due[i], c -> c.shorter());
        Due.of("Promise 30", "-1 - p: likewise.");
        for (int i = 0; i < texts.length; i++) Due.refusedText("becomes()", texts[i], due[i], c -> c.becomes());
    }
}
