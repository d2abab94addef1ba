/** Promises 28 to 30: grammar, shorter, becomes. */
public final class WordingsTest {
    public static void main(String[] args) {
        grammar();
        grammarWrong();
        shorter();
        shorterRows();
        becomes();
        wordingsWrong();
        Due.finish();
    }

    private static void grammar() {
        Due.of("Promise 28", "THE TEXT is THE GRAMMAR (an empty one: none; at most 10 LINES with ; between): each two letters a .. g, >, a letter a .. g: what two words may become: how many LINES.");
        ClockForTalk c = new ClockForTalk();
        Due.is("28: two", Due.grammar(c, "ab>c;cc>d"), 2);
        Due.is("28: count", c.count(7), 2);
        Due.is("28: by it", Due.becomes(c, "abab"), 8);
        Due.is("28: another one takes its place", Due.grammar(c, "gg>g"), 1);
        Due.is("28: the elder is gone", Due.becomes(c, "ab"), 0);
        Due.is("28: the new one holds", Due.becomes(c, "ggg"), 64);
        Due.is("28: an empty one", c.grammar(), 0);
        Due.is("28: none then", c.count(7), 0);
        Due.is("28: nothing becomes another", Due.becomes(c, "gg"), 0);
        Due.is("28: ten", Due.grammar(c, Due.times("aa>b;", 9) + "ab>c"), 10);
        Due.is("28: the tenth counts", Due.becomes(c, "ab"), 4);
        Due.is("28: eleven", Due.grammar(c, Due.times("aa>b;", 10) + "aa>b"), -51);
        Due.is("28: ten and a ;", Due.grammar(c, Due.times("aa>b;", 10)), -51);
        Due.is("28: eighty signs", Due.grammar(c, Due.times("aa>b;", 16)), -51);
        Due.is("28: the elder stays", c.count(7), 10);
    }

    private static void grammarWrong() {
        Due.of("Promise 28", "-1 - p: the sign at p can't stand there (its end, if it ends too early; the first sign of an eleventh LINE).");
        ClockForTalk c = new ClockForTalk();
        Due.grammar(c, "ab>c");
        String[] texts = {"x", "h", "a", "ah", "ab", "ab<", "ab>", "ab>h", "ab>c;", "ab>cc", "ab>c;;", ";", "ab>c;aa", "Ab>c"};
        int[] due = {-1, -1, -2, -2, -3, -3, -4, -4, -6, -5, -6, -1, -8, -1};
        for (int i = 0; i < texts.length; i++) Due.is("28: " + texts[i], Due.grammar(c, texts[i]), due[i]);
        Due.is("28: the elder stays", c.count(7), 1);
        Due.is("28: and holds", Due.becomes(c, "ab"), 4);
        Due.is("28: the text is empty", c.count(11), 0);
    }

    private static void shorter() {
        Due.of("Promise 29", "THE TEXT is a wording (1 to 14 letters a .. g, a second each): the fewest letters that it can become: how many; the ROW: the letters then (0: a, ..)");
        ClockForTalk c = new ClockForTalk();
        Due.is("29: without a grammar", Due.shorter(c, "gfa"), 3);
        Due.row("29: as it is", c, 6, 5, 0);
        Due.grammar(c, "ab>c;cc>d");
        Due.is("29: one", Due.shorter(c, "abab"), 1);
        Due.row("29: d", c, 3);
        Due.is("29: two", Due.shorter(c, "aba"), 2);
        Due.row("29: ca", c, 2, 0);
        Due.is("29: two", Due.shorter(c, "aab"), 2);
        Due.row("29: ac", c, 0, 2);
        Due.is("29: one letter", Due.shorter(c, "e"), 1);
        Due.row("29: e", c, 4);
        Due.grammar(c, "aa>a");
        Due.is("29: fourteen", Due.shorter(c, Due.times("a", 14)), 1);
        Due.row("29: a", c, 0);
        Due.grammar(c, "aa>b;bb>c;cc>d");
        Due.is("29: twelve", Due.shorter(c, Due.times("a", 12)), 2);
        Due.row("29: cd or dc: the least", c, 2, 3);
        Due.is("29: fourteen without a shorter form", Due.shorter(c, "gfgfgfgfgfgfga"), 14);
        Due.row("29: all of them", c, 6, 5, 6, 5, 6, 5, 6, 5, 6, 5, 6, 5, 6, 0);
    }

    private static void shorterRows() {
        Due.of("Promise 29", "of as few the least row.");
        ClockForTalk c = new ClockForTalk();
        Due.grammar(c, "aa>c;aa>b");
        Due.is("29: b is less than c", Due.shorter(c, "aa"), 1);
        Due.row("29: b", c, 1);
        Due.is("29: aab or aba", Due.shorter(c, "aaa"), 2);
        Due.row("29: ab is less than ba", c, 0, 1);
        Due.grammar(c, "ab>g;bc>a");
        Due.is("29: gc or aa", Due.shorter(c, "abc"), 2);
        Due.row("29: aa", c, 0, 0);
        Due.grammar(c, "gb>a;bc>a");
        Due.is("29: ga or ac", Due.shorter(c, "gbc"), 2);
        Due.row("29: ac", c, 0, 2);
        Due.grammar(c, "bb>a;bc>a");
        Due.is("29: ba or ac", Due.shorter(c, "bbc"), 2);
        Due.row("29: ac of it", c, 0, 2);
        Due.grammar(c, "ab>a;bc>g");
        Due.is("29: ag or ac", Due.shorter(c, "abc"), 2);
        Due.row("29: ac again", c, 0, 2);
        Due.grammar(c, "ab>a;bc>a");
        Due.is("29: aa or ac", Due.shorter(c, "abc"), 2);
        Due.row("29: aa of it", c, 0, 0);
        Due.grammar(c, "ab>g;gc>g;bc>a");
        Due.is("29: fewer letters are ahead of less ones", Due.shorter(c, "abc"), 1);
        Due.row("29: g", c, 6);
    }

    private static void becomes() {
        Due.of("Promise 30", "THE TEXT is a wording: letters (bits) that all of it can become, alone.");
        ClockForTalk c = new ClockForTalk();
        Due.grammar(c, "ab>c;ab>a;ba>g;cb>f;aa>b");
        c.pool();
        Due.is("30: two ways", Due.becomes(c, "ab"), 5);
        Due.is("30: one letter is itself", Due.becomes(c, "f"), 32);
        // abb: (ab)b is cb > f, or ab > c, a.
        Due.is("30: three letters", Due.becomes(c, "abb"), 37);
        Due.is("30: none", Due.becomes(c, "bb"), 0);
        Due.is("30: the row stays", c.count(10), 2);
        Due.is("30: fourteen", Due.becomes(c, "a" + Due.times("b", 13)), 37);
        Due.grammar(c, "ab>c");
        Due.is("30: the order counts", Due.becomes(c, "ba"), 0);
    }

    private static void wordingsWrong() {
        Due.of("Promise 29", "-1 - p: the sign at p can't stand there (its end for none; a fifteenth sign: at it).");
        ClockForTalk c = new ClockForTalk();
        c.pool();
        String[] texts = {"", "h", "abx", "A", Due.times("a", 15), Due.times("a", 14) + "x", Due.times("a", 80), Due.times("a", 13) + "xa", "a;b"};
        int[] due = {-1, -1, -3, -1, -15, -15, -15, -14, -2};
        for (int i = 0; i < texts.length; i++) {
            Due.is("29: shorter of " + texts[i], Due.shorter(c, texts[i]), due[i]);
            Due.is("29: the text is empty", c.count(11), 0);
            Due.is("30: becomes of " + texts[i], Due.becomes(c, texts[i]), due[i]);
            Due.is("30: the text is empty", c.count(11), 0);
        }
        Due.row("29: the row stays", c, 0, 0);
    }
}
