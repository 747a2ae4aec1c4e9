/**
 * Letters, words and the graph of the book (promises 1 to 11): each boundary that the document names, one step beyond it,
 * and that a refused call leaves all as it was.
 */
public final class BookEdgesTest {
    public static void main(String[] args) {
        newObject();
        signs();
        nineSigns();
        wiped();
        lettersOfAWord();
        eightyWords();
        editionsTold();
        bothEditionsCount();
        bothEditionsCountInAGame();
        presentEdition();
        struck();
        blanksAreNoWords();
        nodesOfFewWords();
        nodesOfAFullBook();
        hooksOfShortAndLongRows();
        hooksOfAllLetters();
        anagramsOfShortAndLongRows();
        anagramsOfBlanks();
        Check.end("BookEdgesTest");
    }

    /** "Creates a board of 5 by 5 plain cells, an empty book, and no game." */
    private static void newObject() {
        Check.due("column and row 4", '.', new Lexirack().cell(4, 4, '.'));
        Looks.refused("column 5", Check.INDEX, Lexirack::new, x -> x.cell(5, 4, '.'));
        Looks.refused("row 5", Check.INDEX, Lexirack::new, x -> x.cell(4, 5, '.'));
        Check.due("no word", 0, new Lexirack().words());
        Check.due("no word counts", 1, Check.typed(new Lexirack(), "ab").word(0, 0));
        Looks.refused("nothing to strike", Check.ELEMENT, Lexirack::new, Lexirack::strike);
        Looks.refused("no game", Check.STATE, Lexirack::new, Lexirack::isOver);
        Check.due("sound without a game", true, new Lexirack().isSound());
    }

    /** "a to h, A to H, or ?", of all signs that there are. */
    private static void signs() {
        Check.signs("type", "abcdefghABCDEFGH?", Lexirack::new, Lexirack::type);
        for (char sign : "`i@I>".toCharArray()) {
            Looks.refused("beside the signs", Check.ARGUMENT, () -> Check.typed(Check.book("ab"), "ab"), x -> x.type(sign));
        }
    }

    /** "Letters are typed into a row, at most 9." */
    private static void nineSigns() {
        Lexirack x = Check.typed(new Lexirack(), "abcdefgh");
        Check.due("the ninth", 9, x.type('?'));
        for (char sign : "aA?h".toCharArray()) {
            Looks.refused("the tenth", Check.STATE, () -> Check.typed(Check.book("ab"), "aB?aaaaaa"), each -> each.type(sign));
        }
        Looks.refused("no sign, and it would be the tenth", Check.ARGUMENT, () -> Check.typed(new Lexirack(), "aaaaaaaaa"),
            each -> each.type('i'));
        Check.due("nine", 9, x.wipe());
        Check.due("the first again", 1, x.type('h'));
    }

    private static void wiped() {
        for (int size = 0; size <= 9; size++) {
            Lexirack x = Check.typed(new Lexirack(), "aB?aB?aB?".substring(0, size));
            Check.due("wiped", size, x.wipe());
            Check.due("empty", 0, x.wipe());
        }
    }

    /** "A word has 2 to 7 letters." */
    private static void lettersOfAWord() {
        for (int size = 0; size <= 9; size++) {
            String row = "abcdefgha".substring(0, size);
            if (size >= 2 && size <= 7) {
                Lexirack x = Check.typed(new Lexirack(), row);
                Check.due(row, 1, x.word(0, 9));
                Check.due("the row is empty then", 0, x.wipe());
                Check.due(row, true, Check.typed(x, row).isWord());
                Check.due(row, 0, x.strike());
                Check.due("the row is empty then", 0, x.wipe());
            } else {
                Looks.refused("word of " + size, Check.ARGUMENT, () -> Check.typed(Check.book("ab"), row), x -> x.word(0, 9));
                Looks.refused("strike of " + size, Check.ELEMENT, () -> Check.typed(Check.book("ab"), row), Lexirack::strike);
                Check.due(row, false, Check.typed(Check.book("ab", "abcdefg"), row).isWord());
            }
        }
    }

    /** All words of two letters, then some of three. */
    private static Lexirack bookOf(int words) {
        Lexirack x = new Lexirack();
        for (int k = 0; k < words; k++) {
            if (k >= 64) {
                x.type('a');
            }
            x.type((char) ('a' + k / 8 % 8));
            x.type((char) ('a' + k % 8));
            Check.due("words of the book", k + 1, x.word(0, 9));
        }
        return x;
    }

    /** "The book has at most 80 words." */
    private static void eightyWords() {
        Check.due("the 79th is there, the 80th is new", 80, Check.typed(bookOf(79), "hhhhhhh").word(0, 9));
        Looks.refused("the 81st", Check.STATE, () -> Check.typed(bookOf(80), "hhh"), x -> x.word(0, 9));
        Looks.refused("of no edition, and the 81st", Check.ARGUMENT, () -> Check.typed(bookOf(80), "hhh"), x -> x.word(0, 10));
        Looks.refused("of one letter, and the 81st", Check.ARGUMENT, () -> Check.typed(bookOf(80), "h"), x -> x.word(0, 9));
        Lexirack x = bookOf(80);
        Check.due("all of them", 80, x.words());
        Check.due("the first one anew", 80, Check.typed(x, "aa").word(1, 9));
        Check.due("the last one anew", 80, Check.typed(x, "abh").word(1, 9));
        Check.due("two fewer", 78, x.words());
        Check.due("one struck", 79, Check.typed(x, "aa").strike());
        Check.due("another one", 80, Check.typed(x, "hhh").word(0, 9));
        Check.thrown("the 81st again", Check.STATE, () -> Check.typed(x, "aa").word(0, 9));
    }

    /** "each with a first edition and a last one, 0 to 9", "or the last one is less" */
    private static void editionsTold() {
        for (int first = -2; first <= 11; first++) {
            for (int last = -2; last <= 11; last++) {
                int from = first;
                int to = last;
                if (first >= 0 && first <= last && last <= 9) {
                    Check.due(first + " to " + last, 1, Check.typed(new Lexirack(), "ab").word(first, last));
                } else {
                    Check.thrown(first + " to " + last, Check.ARGUMENT, () -> Check.typed(new Lexirack(), "ab").word(from, to));
                }
            }
        }
        for (int[] each : new int[][] {{-1, 0}, {-1, 9}, {0, 10}, {9, 10}, {10, 10}, {-1, -1}, {1, 0}, {9, 8}, {5, 4}}) {
            Looks.refused("a new word", Check.ARGUMENT, () -> Check.typed(Check.book("ab"), "ba"), x -> x.word(each[0], each[1]));
            Looks.refused("one told anew", Check.ARGUMENT, () -> Check.typed(Check.book("ab"), "ab"), x -> x.word(each[0], each[1]));
        }
    }

    /** "it counts as a word in these editions, both included" */
    private static void bothEditionsCount() {
        for (int first = 0; first <= 9; first++) {
            for (int last = first; last <= 9; last++) {
                Lexirack x = new Lexirack();
                Check.typed(x, "ab").word(first, last);
                Check.typed(x, "a");
                for (int edition = 0; edition <= 9; edition++) {
                    boolean counts = first <= edition && edition <= last;
                    String what = "of " + first + " to " + last + " in " + edition;
                    x.edition(edition);
                    Check.due("words " + what, counts ? 1 : 0, x.words());
                    Check.due("nodes " + what, counts ? 3 : 0, x.nodes());
                    Check.due("hooks " + what, counts ? 2 : 0, x.hooks(false));
                    x.type('b');
                    Check.due("isWord " + what, counts, x.isWord());
                    Check.due("anagrams of all " + what, counts ? 1 : 0, x.anagrams(true));
                    Check.due("anagrams " + what, counts ? 1 : 0, x.anagrams(false));
                    Check.typed(x, "a");
                }
            }
        }
    }

    private static Lexirack inAGame(char house, int edition) {
        Lexirack x = Check.tiles(new Lexirack(), "aaaaaa");
        Check.typed(x, "aa").word(4, 6);
        x.edition(edition);
        x.begin(2, house, 0);
        return Check.typed(x, "aa");
    }

    private static void bothEditionsCountInAGame() {
        for (int edition = 3; edition <= 7; edition++) {
            int now = edition;
            boolean counts = edition >= 4 && edition <= 6;
            Check.due("plays in " + edition, counts ? 4 : 0, inAGame('v', edition).plays());
            if (counts) {
                Check.due("a play in " + edition, 52, inAGame('v', edition).play(2, 2, false));
            } else {
                Looks.refused("a play in " + edition, Check.UNSUPPORTED, () -> inAGame('v', now), x -> x.play(2, 2, false));
            }
            Lexirack x = inAGame('s', edition);
            x.play(2, 2, false);
            Check.due("taken back in " + edition, !counts, x.challenge());
            Lexirack y = inAGame('s', counts ? 0 : 5);
            y.play(2, 2, false);
            y.edition(edition);
            Check.due("by the edition as it is then", !counts, y.challenge());
        }
    }

    /** "There is a present edition, 0 at first." */
    private static void presentEdition() {
        Lexirack x = new Lexirack();
        Check.typed(x, "ab").word(0, 0);
        Check.typed(x, "ba").word(1, 9);
        Check.due("of the edition 0", true, Check.typed(x, "ab").isWord());
        Check.due("not of the next one", false, Check.typed(x, "ba").isWord());
        Check.due("0 at first", 0, x.edition(0));
        Check.due("the least", 0, x.edition(9));
        Check.due("the greatest", 9, x.edition(9));
        Check.due("not of the edition 9", false, Check.typed(x, "ab").isWord());
        for (int edition : new int[] {-1, 10, Integer.MIN_VALUE, Integer.MAX_VALUE}) {
            Looks.refused("edition " + edition, Check.ARGUMENT, () -> ofEdition(4), each -> each.edition(edition));
        }
    }

    private static Lexirack ofEdition(int edition) {
        Lexirack x = Check.tiles(Check.book("ab", "aa"), "aaabbb");
        Check.typed(x, "ba").word(edition, edition);
        x.edition(edition);
        x.begin(2, 's', 0);
        return Check.typed(x, "ba");
    }

    /** "Throws NoSuchElementException if it is not in it" */
    private static void struck() {
        Lexirack x = Check.book("ab");
        Check.typed(x, "ba").word(9, 9);
        Check.due("of another edition", 1, Check.typed(x, "ba").strike());
        Check.due("the last one", 0, Check.typed(x, "ab").strike());
        Check.due("none", 0, x.nodes());
        for (String row : new String[] {"", "a", "b", "aa", "ba", "aba", "aB", "?b", "ababababa"}) {
            Looks.refused("strike " + row, Check.ELEMENT, () -> Check.typed(Check.book("ab", "abab"), row), Lexirack::strike);
        }
        Looks.refused("struck before", Check.ELEMENT, BookEdgesTest::withoutOne, Lexirack::strike);
    }

    private static Lexirack withoutOne() {
        Lexirack x = Check.book("ab", "ba");
        Check.typed(x, "ab").strike();
        return Check.typed(x, "ab");
    }

    /** "a row with one of these is no word, and has no hooks" */
    private static void blanksAreNoWords() {
        Lexirack x = Check.book("ab", "aba", "bab", "aa", "bb", "cab");
        Check.due("letters alone have hooks", 2 + 4, Check.typed(x, "ab").hooks(true));
        Check.due("letters alone have hooks", 1, x.hooks(false));
        for (String row : new String[] {"Ab", "aB", "AB", "?b", "a?", "??", "A?", "?", "A", "B", "H"}) {
            Check.due(row + " is no word", false, Check.typed(x, row).isWord());
            Check.due(row + " has no hooks in front", 0, x.hooks(true));
            Check.due(row + " has no hooks behind", 0, x.hooks(false));
            Looks.refused("word " + row, Check.ARGUMENT, () -> Check.typed(Check.book("ab", "aba"), row), y -> y.word(0, 9));
            Looks.refused("strike " + row, Check.ELEMENT, () -> Check.typed(Check.book("ab", "aba"), row), Lexirack::strike);
        }
    }

    /** "over all beginnings of words of the present edition, the empty beginning and whole words, too; without words none" */
    private static void nodesOfFewWords() {
        Check.due("without words", 0, new Lexirack().nodes());
        Check.due("the empty beginning, a, ab", 3, Check.book("ab").nodes());
        Check.due("of seven letters", 8, Check.book("abcdefg").nodes());
        Check.due("seven like letters", 8, Check.book("aaaaaaa").nodes());
        Check.due("all beginnings are words, too", 8,
            Check.book("aa", "aaa", "aaaa", "aaaaa", "aaaaaa", "aaaaaaa").nodes());
        Lexirack x = new Lexirack();
        Check.typed(x, "ab").word(1, 9);
        Check.due("without words of this edition", 0, x.nodes());
        x.edition(1);
        Check.due("with one", 3, x.nodes());
        Check.typed(x, "ab").strike();
        Check.due("without words again", 0, x.nodes());
        Check.due("ab is followed by nothing or c", 4, Check.book("ab", "abc").nodes());
        Check.due("like sets are one", 3, Check.book("ab", "bb", "hb").nodes());
        Check.due("a set of one more is another one", 4, Check.book("ab", "bb", "bc").nodes());
    }

    private static void nodesOfAFullBook() {
        Check.due("of all words of two letters", 3, bookOf(64).nodes());
        Check.due("aa is followed by nothing or h", 5, Check.withWords(bookOf(64), "aah").nodes());
        Check.due("of a full book", 5, bookOf(80).nodes());
        Lexirack x = new Lexirack();
        for (int k = 0; k < 80; k++) {
            Check.withWords(x, "" + (char) ('a' + k % 8) + (char) ('a' + k / 8 % 8) + (char) ('a' + k / 64) + "bcd");
        }
        Check.due("80 words", 80, x.words());
        Check.due("none, one letter, two of two kinds, three, and the rest", 1 + 1 + 2 + 4, x.nodes());
    }

    private static Lexirack bookOfOneLetter() {
        return Check.book("aa", "aaa", "aaaa", "aaaaa", "aaaaaa", "aaaaaaa");
    }

    private static void hooksOfShortAndLongRows() {
        for (int size = 0; size <= 9; size++) {
            Lexirack x = Check.typed(bookOfOneLetter(), "aaaaaaaaa".substring(0, size));
            int due = size >= 1 && size <= 6 ? 1 : 0;
            Check.due("in front of " + size, due, x.hooks(true));
            Check.due("behind " + size, due, x.hooks(false));
            Check.due("the row stays", size, x.wipe());
        }
    }

    /** "the sum of 2 to the power of the number of each letter, 0 for a" */
    private static void hooksOfAllLetters() {
        Lexirack x = bookOf(64);
        Check.due("all in front", 255, Check.typed(x, "a").hooks(true));
        Check.due("all behind", 255, Check.typed(x, "h").hooks(false));
        Check.due("a alone", 1, Check.typed(Check.book("ab"), "b").hooks(true));
        Check.due("h alone", 128, Check.typed(Check.book("hb"), "b").hooks(true));
        Check.due("a alone", 1, Check.typed(Check.book("ba"), "b").hooks(false));
        Check.due("h alone", 128, Check.typed(Check.book("bh"), "b").hooks(false));
        Check.due("none", 0, Check.typed(Check.book("bh"), "h").hooks(false));
    }

    private static void anagramsOfShortAndLongRows() {
        for (int size = 0; size <= 9; size++) {
            Lexirack x = Check.typed(bookOfOneLetter(), "aaaaaaaaa".substring(0, size));
            Check.due("all " + size, size >= 2 && size <= 7 ? 1 : 0, x.anagrams(true));
            Check.due("any of " + size, Math.max(0, Math.min(size, 7) - 1), x.anagrams(false));
            Lexirack y = Check.typed(bookOfOneLetter(), "?A?H?B?C?".substring(0, size));
            Check.due("all of " + size + " blanks", size >= 2 && size <= 7 ? 1 : 0, y.anagrams(true));
            Check.due("any of " + size + " blanks", Math.max(0, Math.min(size, 7) - 1), y.anagrams(false));
        }
    }

    /** One blank fewer than a word needs, as many, and one more. */
    private static void anagramsOfBlanks() {
        Lexirack x = Check.book("abc");
        for (String row : new String[] {"??", "a?", "ab", "cH", "dd?", "ad?", "aab", "a?d"}) {
            Check.due("a blank too few: " + row, 0, Check.typed(x, row).anagrams(false));
            Check.due("a blank too few: " + row, 0, x.anagrams(true));
        }
        for (String row : new String[] {"???", "a??", "?b?", "cb?", "cba", "bH?", "AAA", "cHa"}) {
            Check.due("as many: " + row, 1, Check.typed(x, row).anagrams(false));
            Check.due("as many: " + row, 1, x.anagrams(true));
        }
        for (String row : new String[] {"????", "a???", "abc?", "abcd", "aabc", "hh???", "abcA"}) {
            Check.due("one more: " + row, 1, Check.typed(x, row).anagrams(false));
            Check.due("one more: " + row, 0, x.anagrams(true));
        }
    }
}
