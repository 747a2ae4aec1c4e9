/** Promises 1 to 11: a new object, the row, the book, its graph, hooks, and words of letters in any order. */
public final class BookTest {
    public static void main(String[] args) {
        promise01NewObject();
        promise02Type();
        promise03Wipe();
        promise04Word();
        promise04FullBook();
        promise05Strike();
        promise06Edition();
        promise07IsWord();
        promise08Words();
        promise09Nodes();
        promise09NodesOfLongWords();
        promise10Hooks();
        promise11Anagrams();
        Check.end("BookTest");
    }

    private static void promise01NewObject() {
        Lexirack x = new Lexirack();
        Check.due("words of a new object", 0, x.words());
        Check.due("nodes of a new object", 0, x.nodes());
        Check.due("wipe of a new object", 0, x.wipe());
        Check.due("the first edition", 0, x.edition(0));
        Check.due("the start of a new board", 202, x.start(4, 4));
        for (int cell = 0; cell < 25; cell++) {
            Check.due("a plain cell", '.', x.cell(cell % 5, cell / 5, '.'));
            Check.due("no tile", '.', x.tile(cell % 5, cell / 5));
        }
        Check.thrown("no sixth column", Check.INDEX, () -> x.tile(5, 0));
        Check.thrown("no sixth row", Check.INDEX, () -> x.tile(0, 5));
        Check.thrown("no game", Check.STATE, x::bag);
        Check.thrown("no game", Check.STATE, x::turns);
        for (char letter : "abcdefgh".toCharArray()) {
            Check.due("value and count of " + letter, 104, x.letter(letter, 1, 4));
            Check.due("weight of " + letter, 0, x.weight(letter, 0));
        }
        Check.due("count of blanks", 2, x.letter('?', 0, 2));
        Check.due("weight of blanks", 0, x.weight('?', 0));
        Check.due("time", 600, x.time(600));
        for (int person = 0; person < 6; person++) {
            Check.due("rating of " + person, 1000, x.rating(person));
        }
        Check.due("person 0 sits", 0, x.sit(0, 0));
        Check.due("person 1 sits", 1, x.sit(1, 1));
        Check.due("sound", true, x.isSound());
    }

    private static void promise02Type() {
        Lexirack x = new Lexirack();
        String signs = "ahAH?bGcD";
        for (int k = 0; k < 9; k++) {
            Check.due("type " + signs.charAt(k), k + 1, x.type(signs.charAt(k)));
        }
        Check.thrown("a tenth sign", Check.STATE, () -> x.type('a'));
        for (char sign : "i`@I >!1\u0000\uffff\u0161".toCharArray()) {
            Check.thrown("no such sign ahead of a full row", Check.ARGUMENT, () -> x.type(sign));
        }
        Check.due("the row stays", 9, x.wipe());
        Check.thrown("no such sign", Check.ARGUMENT, () -> x.type('i'));
        Check.due("nothing was typed", 0, x.wipe());
    }

    private static void promise03Wipe() {
        Lexirack x = new Lexirack();
        Check.due("wipe of none", 0, x.wipe());
        x.type('a');
        x.type('?');
        Check.due("wipe of two", 2, x.wipe());
        Check.due("wipe again", 0, x.wipe());
        Check.due("typed anew", 1, x.type('b'));
    }

    private static void promise04Word() {
        Lexirack x = new Lexirack();
        Check.due("a first word", 1, Check.typed(x, "ab").word(0, 0));
        Check.due("the row is empty then", 0, x.wipe());
        Check.due("a longest word", 2, Check.typed(x, "abcdefg").word(9, 9));
        Check.due("editions told anew", 2, Check.typed(x, "ab").word(3, 5));
        Check.due("not in edition 0 any more", 0, x.words());
        x.edition(3);
        Check.due("in edition 3", 1, x.words());
        x.edition(5);
        Check.due("in edition 5", 1, x.words());
        x.edition(6);
        Check.due("not in edition 6", 0, x.words());
        for (String row : new String[] {"", "a", "abcdefgh", "aB", "?a", "ab?", "AB"}) {
            Check.thrown("no word: " + row, Check.ARGUMENT, () -> Check.typed(x, row).word(0, 9));
            Check.due("the row stays", row.length(), x.wipe());
        }
        int[][] wrong = {{-1, 5}, {0, 10}, {5, 4}, {10, 10}, {-1, -1}, {9, 0}, {Integer.MIN_VALUE, Integer.MAX_VALUE}};
        for (int[] editions : wrong) {
            Check.thrown("no such editions", Check.ARGUMENT, () -> Check.typed(x, "ba").word(editions[0], editions[1]));
        }
        Check.due("the row stays", 2, x.wipe());
    }

    private static void promise04FullBook() {
        Lexirack x = new Lexirack();
        for (int k = 0; k < 80; k++) {
            String word = "" + (char) ('a' + k / 64) + (char) ('a' + k / 8 % 8) + (char) ('a' + k % 8);
            Check.due("word " + word, k + 1, Check.typed(x, word).word(0, 9));
        }
        Check.thrown("an 81st word", Check.STATE, () -> Check.typed(x, "hh").word(0, 9));
        Check.due("the row stays", 2, x.wipe());
        Check.thrown("editions ahead of a full book", Check.ARGUMENT, () -> Check.typed(x, "hh").word(1, 0));
        Check.due("a word that is in it", 80, Check.typed(x, "aaa").word(1, 1));
        Check.due("one word fewer in edition 0", 79, x.words());
        Check.due("struck", 79, Check.typed(x, "aab").strike());
        Check.due("room again", 80, Check.typed(x, "hh").word(0, 9));
    }

    private static void promise05Strike() {
        Lexirack x = Check.book("ab", "ba", "abc");
        Check.due("struck", 2, Check.typed(x, "ab").strike());
        Check.due("the row is empty then", 0, x.wipe());
        Check.due("no word any more", false, Check.typed(x, "ab").isWord());
        Check.due("still a word", true, Check.typed(x, "abc").isWord());
        Check.due("still a word", true, Check.typed(x, "ba").isWord());
        for (String row : new String[] {"ab", "", "b", "bA", "b?", "abcabcab"}) {
            Check.thrown("not in it: " + row, Check.ELEMENT, () -> Check.typed(x, row).strike());
            Check.due("the row stays", row.length(), x.wipe());
        }
        Check.typed(x, "ce").word(4, 4);
        Check.typed(x, "ba").strike();
        Check.due("another word keeps its editions", false, Check.typed(x, "ce").isWord());
        x.edition(4);
        Check.due("in its edition", true, x.isWord());
        x.edition(5);
        Check.due("not behind it", false, x.isWord());
        Check.withWords(x, "ba");
        Check.due("a word of another edition", 2, Check.typed(x, "ce").strike());
        Check.due("two left", 2, x.words());
    }

    private static void promise06Edition() {
        Lexirack x = new Lexirack();
        Check.due("the first one", 0, x.edition(9));
        Check.due("the one before", 9, x.edition(4));
        Check.thrown("none below 0", Check.ARGUMENT, () -> x.edition(-1));
        Check.thrown("none above 9", Check.ARGUMENT, () -> x.edition(10));
        Check.due("it stays", 4, x.edition(0));
    }

    private static void promise07IsWord() {
        Lexirack x = Check.book("ab");
        Check.typed(x, "cab").word(2, 3);
        Check.due("a word", true, Check.typed(x, "ab").isWord());
        Check.due("the row stays", 2, x.wipe());
        Check.due("of a later edition", false, Check.typed(x, "cab").isWord());
        x.edition(2);
        Check.due("of its first edition", true, x.isWord());
        x.edition(3);
        Check.due("of its last edition", true, x.isWord());
        x.edition(4);
        Check.due("of an earlier edition", false, x.isWord());
        for (String row : new String[] {"", "a", "ba", "aB", "Ab", "a?", "??", "abababab"}) {
            Check.due("no word: " + row, false, Check.typed(x, row).isWord());
        }
    }

    private static void promise08Words() {
        Lexirack x = new Lexirack();
        Check.due("none", 0, x.words());
        Check.typed(x, "ab").word(0, 4);
        Check.typed(x, "ba").word(4, 9);
        Check.typed(x, "aa").word(5, 5);
        int[] due = {1, 1, 1, 1, 2, 2, 1, 1, 1, 1};
        for (int edition = 0; edition < 10; edition++) {
            x.edition(edition);
            Check.due("words of edition " + edition, due[edition], x.words());
        }
    }

    private static void promise09Nodes() {
        Lexirack x = new Lexirack();
        Check.due("none", 0, x.nodes());
        Check.due("a word of two", 3, Check.withWords(x, "ab").nodes());
        Check.due("a and c lead to the same", 3, Check.withWords(x, "cb").nodes());
        Check.due("a word of these both and more", 4, Check.withWords(x, "abb", "cbb").nodes());
        Check.due("c and cb are followed by more than a and ab", 6, Check.withWords(x, "cbd").nodes());
        Check.typed(x, "hhhh").word(7, 9);
        Check.due("words of other editions do not count", 6, x.nodes());
        x.edition(7);
        Check.due("another edition", 9, x.nodes());
        Check.due("a struck word", 6, 0 * Check.typed(x, "hhhh").strike() + x.nodes());
        Check.due("a beginning is a word, too", 4, Check.book("ab", "aba").nodes());
    }

    private static void promise09NodesOfLongWords() {
        Lexirack x = Check.book("abcdefg");
        Check.due("seven letters", 8, x.nodes());
        Check.due("the same end behind another beginning", 8, Check.withWords(x, "hbcdefg").nodes());
        Check.due("a shorter way to an end", 8, Check.withWords(x, "defg").nodes());
        Check.due("an own end", 14, Check.withWords(x, "gggggga").nodes());
    }

    private static void promise10Hooks() {
        Lexirack x = Check.book("ab", "cab", "hab", "abe", "aba", "abcdefg", "habcdef");
        Check.typed(x, "dab").word(1, 9);
        Check.due("in front of ab", 4 + 128, Check.typed(x, "ab").hooks(true));
        Check.due("behind ab", 1 + 16, x.hooks(false));
        Check.due("the row stays", 2, x.wipe());
        x.edition(1);
        Check.due("of another edition", 4 + 8 + 128, Check.typed(x, "ab").hooks(true));
        Check.due("of one letter, in front", 1, Check.typed(x, "b").hooks(true));
        Check.due("of one letter, behind", 2, Check.typed(x, "a").hooks(false));
        Check.due("of six letters, in front", 128, Check.typed(x, "abcdef").hooks(true));
        Check.due("of six letters, behind", 64, Check.typed(x, "abcdef").hooks(false));
        for (String row : new String[] {"", "B", "?", "a?", "abcdefg", "abcdefgh", "abcdefgha", "AB"}) {
            Check.due("none in front: " + row, 0, Check.typed(x, row).hooks(true));
            Check.due("none behind: " + row, 0, x.hooks(false));
        }
    }

    private static void promise11Anagrams() {
        Lexirack x = Check.book("ab", "ba", "aab", "aba", "abc", "cc", "aabbccd");
        Check.typed(x, "bb").word(5, 9);
        Check.due("all of ab", 2, Check.typed(x, "ab").anagrams(true));
        Check.due("all of aab", 2, Check.typed(x, "baa").anagrams(true));
        Check.due("any of aab", 4, x.anagrams(false));
        Check.due("the row stays", 3, x.wipe());
        Check.due("a blank for any letter", 3, Check.typed(x, "ab?").anagrams(true));
        Check.due("a capital letter is any letter", 3, Check.typed(x, "abH").anagrams(true));
        Check.due("any of ab?", 5, x.anagrams(false));
        Check.due("blanks alone", 3, Check.typed(x, "??").anagrams(true));
        Check.due("blanks alone, any", 6, Check.typed(x, "A?B").anagrams(false));
        Check.due("a letter as often as it is there", 0, Check.typed(x, "c").anagrams(false));
        Check.due("a blank for a", 2, Check.typed(x, "b?").anagrams(true));
        Check.due("no a, no blank", 0, Check.typed(x, "bbc").anagrams(false));
        Check.due("seven letters", 1, Check.typed(x, "dccbbaa").anagrams(true));
        Check.due("eight tiles, all", 0, Check.typed(x, "dccbbaa?").anagrams(true));
        Check.due("eight tiles, any", 7, x.anagrams(false));
        Check.due("no tiles, all", 0, Check.typed(x, "").anagrams(true));
        Check.due("no tiles, any", 0, x.anagrams(false));
        x.edition(5);
        Check.due("of another edition", 4, Check.typed(x, "??").anagrams(true));
    }
}
