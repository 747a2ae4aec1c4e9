import java.util.function.Function;

/**
 * Tiles and the board (promises 12 to 17): each boundary that the document names, one step beyond it, and that a refused
 * call leaves all as it was.
 */
public final class KitEdgesTest {
    private static final String KINDS = "abcdefgh?";
    private static final int[] FAR = {Integer.MIN_VALUE, Integer.MAX_VALUE};

    public static void main(String[] args) {
        letters();
        values();
        counts();
        blanks();
        valuesInAGame();
        countsInAGame();
        weights();
        vowels();
        worthOfOneAndMore();
        worthOfBlanks();
        sides();
        starts();
        cells();
        startsTold();
        whileAGameGoesOn();
        boardWithoutAGame();
        keptFromTheBeginning();
        Check.end("KitEdgesTest");
    }

    private static Lexirack typed() {
        Lexirack x = Check.book("ab", "ba");
        x.weight('a', 7);
        x.letter('b', 3, 5);
        x.cell(1, 1, 'D');
        return Check.typed(x, "a?");
    }

    /** "a to h, or ?" */
    private static void letters() {
        Check.signs("letter", KINDS, Lexirack::new, (x, sign) -> x.letter(sign, 1, 4));
        Check.signs("weight", KINDS, Lexirack::new, (x, sign) -> x.weight(sign, 0));
        for (char sign : "`iAH@>".toCharArray()) {
            Looks.refused("letter " + sign, Check.ARGUMENT, KitEdgesTest::typed, x -> x.letter(sign, 2, 3));
            Looks.refused("weight " + sign, Check.ARGUMENT, KitEdgesTest::typed, x -> x.weight(sign, 1));
        }
    }

    /** "Each letter has a value, 0 to 10, 1 at first" */
    private static void values() {
        for (char letter : "abcdefgh".toCharArray()) {
            Lexirack x = new Lexirack();
            Check.due("1 and 4 at first", 104, x.letter(letter, 0, 4));
            Check.due("the least value", 4, x.letter(letter, 10, 4));
            Check.due("the greatest value", 1004, x.letter(letter, 9, 4));
            Check.due("the one before", 904, x.letter(letter, 1, 4));
            for (int value : new int[] {-1, 11}) {
                Looks.refused("value " + value, Check.ARGUMENT, KitEdgesTest::typed, each -> each.letter(letter, value, 4));
            }
            for (int value : FAR) {
                Check.thrown("value " + value, Check.ARGUMENT, () -> x.letter(letter, value, 4));
            }
        }
    }

    /** "and a count, 0 to 12, 4 at first" */
    private static void counts() {
        for (char letter : KINDS.toCharArray()) {
            Lexirack x = new Lexirack();
            Check.due("at first", letter == '?' ? 2 : 104, x.letter(letter, 1, 0));
            Check.due("the least count", letter == '?' ? 0 : 100, x.letter(letter, 1, 12));
            Check.due("the greatest count", letter == '?' ? 12 : 112, x.letter(letter, 1, 11));
            Check.due("the one before", letter == '?' ? 11 : 111, x.letter(letter, 1, 1));
            for (int count : new int[] {-1, 13}) {
                Looks.refused("count " + count, Check.ARGUMENT, KitEdgesTest::typed, each -> each.letter(letter, 2, count));
            }
            for (int count : FAR) {
                Check.thrown("count " + count, Check.ARGUMENT, () -> x.letter(letter, 2, count));
            }
        }
    }

    /** "the value, of no meaning for ?" */
    private static void blanks() {
        for (int value : new int[] {-1, 0, 1, 10, 11, Integer.MIN_VALUE, Integer.MAX_VALUE}) {
            Lexirack x = new Lexirack();
            Check.due("2 at first", 2, x.letter('?', value, 12));
            Check.due("no value", 12, x.letter('?', value, 0));
            Check.due("no value", 0, x.letter('?', value, 2));
            Check.thrown("a value of no meaning, and a count that is none", Check.ARGUMENT, () -> x.letter('?', value, 13));
            Check.thrown("a value of no meaning, and a count that is none", Check.ARGUMENT, () -> x.letter('?', value, -1));
        }
    }

    /** "blanks have the value 0, also as letters" */
    private static void valuesInAGame() {
        for (int value : new int[] {0, 1, 10}) {
            Lexirack x = Check.values(Check.tiles(Check.book("ab"), "aabb"), "ab", value, value);
            x.begin(4, 'v', 0);
            Check.due("two letters of the value " + value, 2 * value, Check.played(x, "ab", 2, 2, false));
            Lexirack y = Check.values(Check.tiles(Check.book("ab"), "a???"), "ab", value, value);
            y.letter('?', 10, 3);
            y.begin(4, 'v', 0);
            Check.due("a letter and a blank", value, Check.played(y, "aB", 2, 2, false));
            Lexirack z = Check.values(Check.tiles(Check.book("ab"), "???"), "ab", value, value);
            z.begin(3, 'v', 0);
            Check.due("two blanks", 0, Check.played(z, "AB", 2, 2, false));
            for (int k = 0; k < 6; k++) {
                z.pass();
            }
            Check.due("a blank on a rack", 0, z.score(0));
        }
    }

    private static void countsInAGame() {
        Lexirack x = new Lexirack();
        Check.due("4 of 8 letters and 2 blanks, two racks of 1", 34 - 2, x.begin(1, 'v', 0));
        Lexirack y = Check.tiles(new Lexirack(), "");
        Check.due("no tiles", 0, y.begin(1, 'v', 0));
        for (int k = 0; k < 6; k++) {
            y.pass();
        }
        for (char kind : KINDS.toCharArray()) {
            y.letter(kind, 1, 12);
        }
        Check.due("12 of all nine, two racks of 7", 108 - 14, y.begin(7, 'v', 0));
        Check.due("sound", true, y.isSound());
    }

    /** "The weight of a letter, or of a blank, -20 to 20, is 0 at first." */
    private static void weights() {
        for (char kind : KINDS.toCharArray()) {
            Lexirack x = new Lexirack();
            int alone = kind == '?' ? 0 : -3;
            Check.typed(x, String.valueOf(kind));
            Check.due("0 at first", alone, x.leave());
            Check.due("0 at first", 0, x.weight(kind, -20));
            Check.due("the least", -20 + alone, x.leave());
            Check.due("the least", -20, x.weight(kind, 20));
            Check.due("the greatest", 20 + alone, x.leave());
            for (int weight : new int[] {-21, 21}) {
                Looks.refused("weight " + weight, Check.ARGUMENT, KitEdgesTest::typed, each -> each.weight(kind, weight));
            }
            for (int weight : FAR) {
                Check.thrown("weight " + weight, Check.ARGUMENT, () -> x.weight(kind, weight));
            }
            Check.due("the greatest", 20, x.weight(kind, 0));
        }
    }

    /** "a and e are vowels": with a the other letters make up for one another, the vowels add up. */
    private static void vowels() {
        for (char letter : "abcdefgh".toCharArray()) {
            boolean isVowel = letter == 'a' || letter == 'e';
            int withA = letter == 'a' ? -5 - 6 : isVowel ? -6 : 0;
            int withH = letter == 'h' ? -5 - 6 : isVowel ? 0 : -6;
            Check.due("a and " + letter, withA, Check.typed(new Lexirack(), "a" + letter).leave());
            Check.due("h and " + letter, withH, Check.typed(new Lexirack(), "h" + letter).leave());
        }
        Check.due("one vowel fewer", -3, Check.typed(new Lexirack(), "abc").leave());
        Check.due("as many", 0, Check.typed(new Lexirack(), "abce").leave());
        Check.due("one vowel more", -3, Check.typed(new Lexirack(), "abe").leave());
        Check.due("two more", -6, Check.typed(new Lexirack(), "ae").leave());
        Check.due("two fewer", -6, Check.typed(new Lexirack(), "abcd").leave());
    }

    /** "less 5 for each tile beyond the first one of its letter" */
    private static void worthOfOneAndMore() {
        Check.due("no tile", 0, new Lexirack().leave());
        for (int size = 1; size <= 9; size++) {
            Lexirack x = Check.typed(new Lexirack(), "bbbbbbbbb".substring(0, size));
            Check.due(size + " of a letter", -5 * (size - 1) - 3 * size, x.leave());
            x.weight('b', 20);
            Check.due(size + " of a letter with a weight", 20 * size - 5 * (size - 1) - 3 * size, x.leave());
        }
        Check.due("one of each", -3 * 4, Check.typed(new Lexirack(), "abcdefgh").leave());
        Check.due("a second one", -5 - 3 * 3, Check.typed(new Lexirack(), "abcdefgha").leave());
    }

    /** "blanks likewise", "blanks aside" */
    private static void worthOfBlanks() {
        for (int size = 0; size <= 9; size++) {
            Check.due(size + " blanks", -5 * Math.max(0, size - 1), Check.typed(new Lexirack(), "?AE?BHA?C".substring(0, size)).leave());
        }
        Check.due("a blank beside a vowel", -3, Check.typed(new Lexirack(), "a?").leave());
        Check.due("a blank for a letter is not of that letter", -3, Check.typed(new Lexirack(), "aA").leave());
        Check.due("nor of the other letters", -3, Check.typed(new Lexirack(), "aB").leave());
    }

    /** "It has 3 to 9 columns and 3 to 9 rows, 5 by 5 at first" */
    private static void sides() {
        for (int columns = 1; columns <= 11; columns++) {
            for (int rows = 1; rows <= 11; rows++) {
                int wide = columns;
                int high = rows;
                if (columns < 3 || columns > 9 || rows < 3 || rows > 9) {
                    Check.thrown(columns + " by " + rows, Check.ARGUMENT, () -> new Lexirack().board(wide, high));
                } else {
                    hasSides(columns, rows);
                }
            }
        }
        for (int[] each : new int[][] {{2, 3}, {3, 2}, {9, 10}, {10, 9}, {2, 10}, {0, 5}, {5, -1}, {Integer.MAX_VALUE, 5},
            {5, Integer.MIN_VALUE}}) {
            Looks.refused("out of range", Check.ARGUMENT, KitEdgesTest::typed, x -> x.board(each[0], each[1]));
            Looks.refused("out of range while a game goes on", Check.ARGUMENT, KitEdgesTest::going, x -> x.board(each[0], each[1]));
        }
    }

    private static void hasSides(int columns, int rows) {
        Lexirack x = new Lexirack();
        x.cell(1, 1, 'D');
        Check.due("cells", columns * rows, x.board(columns, rows));
        Check.due("plain", '.', x.cell(1, 1, 'T'));
        Check.due("the last cell", '.', x.cell(columns - 1, rows - 1, 'T'));
        Check.thrown("a column too many", Check.INDEX, () -> x.cell(columns, rows - 1, 'T'));
        Check.thrown("a row too many", Check.INDEX, () -> x.cell(columns - 1, rows, 'T'));
        Check.thrown("a column too many", Check.INDEX, () -> x.tile(columns, 0));
        Check.thrown("a row too many", Check.INDEX, () -> x.tile(0, rows));
    }

    /** "the one of the column and the row that are half of the columns and rows, cut" */
    private static void starts() {
        int[] half = {0, 0, 0, 1, 2, 2, 3, 3, 4, 4};
        Check.due("of the first board", 202, new Lexirack().start(0, 0));
        for (int columns = 3; columns <= 9; columns++) {
            for (int rows = 3; rows <= 9; rows++) {
                Lexirack x = Check.tiles(Check.book("aa"), "aaaa");
                x.start(4, 4);
                x.board(columns, rows);
                x.begin(2, 'v', 0);
                Check.due("plays over the start", 4, x.plays());
                Check.due("its row", half[rows] - 1, x.playAt(0, 'y'));
                Check.due("its column", half[columns], x.playAt(0, 'x'));
                x.playListed(0);
                x.board(columns, rows);
                Check.due("half, cut", 100 * half[columns] + half[rows], x.start(0, 0));
            }
        }
    }

    private static Lexirack going() {
        Lexirack x = Check.tiles(typed(), "aaabbb");
        x.begin(2, 's', 0);
        return x;
    }

    /** "'.' plain, 'd' and 't' ..., 'D' and 'T' ..., '#' a wall", and cells that there are. */
    private static void cells() {
        Check.signs("cell", ".dtDT#", Lexirack::new, (x, sign) -> x.cell(0, 0, sign));
        for (char sign : "cesu-/CEUS\"$".toCharArray()) {
            Looks.refused("kind " + sign, Check.ARGUMENT, KitEdgesTest::typed, x -> x.cell(1, 1, sign));
            Looks.refused("kind " + sign + " in a game", Check.ARGUMENT, KitEdgesTest::going, x -> x.cell(1, 1, sign));
        }
        for (int[] each : new int[][] {{-1, 0}, {0, -1}, {5, 0}, {0, 5}, {-1, -1}, {5, 5}}) {
            refusedByCell("cell", each, x -> x.cell(each[0], each[1], 'd'));
            refusedByCell("cell of no kind", each, x -> x.cell(each[0], each[1], 'q'));
            refusedByCell("start", each, x -> x.start(each[0], each[1]));
            refusedByCell("tile", each, x -> x.tile(each[0], each[1]));
        }
        Lexirack x = new Lexirack();
        for (int[] each : new int[][] {{0, 0}, {4, 0}, {0, 4}, {4, 4}}) {
            Check.due("plain at first", '.', x.cell(each[0], each[1], '#'));
            Check.due("the one before", '#', x.cell(each[0], each[1], 'T'));
            Check.due("the one before", 'T', x.cell(each[0], each[1], '.'));
        }
    }

    private static void refusedByCell(String what, int[] cell, Function<Lexirack, Object> call) {
        String where = what + " at " + cell[0] + " " + cell[1];
        Looks.refused(where, Check.INDEX, KitEdgesTest::typed, call);
        Looks.refused(where + " in a game", Check.INDEX, KitEdgesTest::going, call);
    }

    private static void startsTold() {
        for (int[] each : new int[][] {{0, 0}, {4, 0}, {0, 4}, {4, 4}, {2, 2}}) {
            Lexirack x = Check.tiles(Check.book("aa"), "aaaa");
            x.start(each[0], each[1]);
            Check.due("as told", 100 * each[0] + each[1], x.start(each[0], each[1]));
            x.begin(2, 'v', 0);
            int right = each[0] == 0 || each[0] == 4 ? 1 : 2;
            int below = each[1] == 0 || each[1] == 4 ? 1 : 2;
            Check.due("plays over the start", right + below, x.plays());
        }
        Lexirack x = new Lexirack();
        x.cell(2, 2, '#');
        Check.due("a wall may be the start", 202, x.start(2, 2));
    }

    private static Lexirack passed(int turns) {
        Lexirack x = going();
        for (int k = 0; k < turns; k++) {
            x.pass();
        }
        return x;
    }

    private static Lexirack out(boolean isTakenBack) {
        Lexirack x = Check.tiles(Check.book("aa"), "bbb");
        x.begin(2, 's', 0);
        Check.played(x, "bb", 2, 2, false);
        if (isTakenBack) {
            x.challenge();
        }
        return Check.typed(x, "a?");
    }

    /** "Throws IllegalStateException if a game goes on": not before, nor when it is over. */
    private static void whileAGameGoesOn() {
        for (int turns : new int[] {0, 5}) {
            refusedInAGame("behind " + turns + " passes", () -> passed(turns));
        }
        refusedInAGame("behind a challenge that undoes the end", () -> out(true));
        answered("no game", KitEdgesTest::typed);
        answered("over by six turns", () -> passed(6));
        answered("over by a play", () -> out(false));
    }

    private static void refusedInAGame(String what, java.util.function.Supplier<Lexirack> maker) {
        Check.due("it goes on", false, maker.get().isOver());
        Looks.refused("letter " + what, Check.STATE, maker, x -> x.letter('a', 0, 0));
        Looks.refused("letter ? " + what, Check.STATE, maker, x -> x.letter('?', 0, 12));
        Looks.refused("board " + what, Check.STATE, maker, x -> x.board(3, 3));
        Looks.refused("board like it " + what, Check.STATE, maker, x -> x.board(5, 5));
        Looks.refused("cell " + what, Check.STATE, maker, x -> x.cell(1, 1, '#'));
        Looks.refused("start " + what, Check.STATE, maker, x -> x.start(0, 0));
        Looks.refused("a value that is none, " + what, Check.ARGUMENT, maker, x -> x.letter('a', 11, 0));
        Looks.refused("a count that is none, " + what, Check.ARGUMENT, maker, x -> x.letter('a', 1, 13));
        Looks.refused("no letter, " + what, Check.ARGUMENT, maker, x -> x.letter('i', 1, 1));
        Looks.refused("a weight that is none, " + what, Check.ARGUMENT, maker, x -> x.weight('a', 21));
        Check.due("a weight " + what, 20, weighed(maker.get()).weight('b', 0));
    }

    private static Lexirack weighed(Lexirack x) {
        x.weight('b', 20);
        return x;
    }

    private static void answered(String what, java.util.function.Supplier<Lexirack> maker) {
        Lexirack x = maker.get();
        int before = x.letter('a', 10, 12);
        Check.due("letter, " + what, before / 100, 1);
        Check.due("cell, " + what, '.', x.cell(0, 0, '#'));
        Check.due("start, " + what, 202, x.start(0, 0));
        Check.due("letter as told, " + what, 1012, x.letter('a', 0, 0));
        Check.due("cell as told, " + what, '#', x.cell(0, 0, '.'));
        Check.due("start as told, " + what, 0, x.start(4, 4));
        Check.due("board, " + what, 9, x.board(3, 3));
        Check.due("plain, " + what, '.', x.cell(0, 0, '#'));
        Check.thrown("without a game, " + what, Check.STATE, x::turns);
    }

    /** "Makes another board, without a game." */
    private static void boardWithoutAGame() {
        Lexirack x = out(false);
        Check.due("over", true, x.isOver());
        x.board(5, 5);
        Check.thrown("no game", Check.STATE, x::isOver);
        Check.thrown("no play to challenge", Check.STATE, x::challenge);
        Check.thrown("nothing to rate", Check.STATE, x::rate);
        Check.due("no tile", '.', x.tile(2, 2));
        Check.due("sound", true, x.isSound());
        Check.due("a game on the new board", 0, x.begin(2, 's', 0));
        Check.due("no tile", '.', x.tile(2, 2));
    }

    /** "It keeps values, counts and cells as they were when it began." */
    private static void keptFromTheBeginning() {
        Lexirack x = out(false);
        x.letter('b', 10, 12);
        x.cell(2, 2, 'T');
        x.cell(3, 2, '#');
        Check.due("the value of then: a full rack, two b, twice one b", 50 + 2 + 2, x.score(0));
        Check.due("all its tiles", true, x.isSound());
        x.challenge();
        Check.due("it goes on with its cells and values", 52, Check.played(passedOnce(x), "bb", 2, 2, false));
        Check.due("and with its counts", true, x.isSound());
        x.begin(2, 's', 0);
        Check.due("the next game has the new count", 8, x.bag());
        Check.thrown("and the new wall", Check.UNSUPPORTED, () -> Check.played(x, "bb", 2, 2, false));
        Check.due("and the new value, thrice", (10 + 10) * 3 + 50, Check.played(x, "bb", 2, 2, true));
    }

    private static Lexirack passedOnce(Lexirack x) {
        x.pass();
        return x;
    }
}
