/** Promises 12 to 17: letters, weights, leaves, boards, cells and the start. */
public final class TilesTest {
    public static void main(String[] args) {
        promise12Letter();
        promise12LetterInGame();
        promise13Weight();
        promise14Leave();
        promise15Board();
        promise16Cell();
        promise16CellInGame();
        promise17Start();
        Check.end("TilesTest");
    }

    private static void promise12Letter() {
        Lexirack x = new Lexirack();
        Check.due("as at first", 104, x.letter('a', 10, 12));
        Check.due("the ones before", 1012, x.letter('a', 0, 0));
        Check.due("none", 0, x.letter('a', 7, 3));
        Check.due("another letter", 104, x.letter('h', 2, 2));
        Check.due("blanks", 2, x.letter('?', -5, 12));
        Check.due("blanks have the value 0", 12, x.letter('?', 99, 0));
        Check.due("no blanks", 0, x.letter('?', Integer.MIN_VALUE, 1));
        for (char letter : "i`AH@! \u0000\uffff".toCharArray()) {
            Check.thrown("no such letter", Check.ARGUMENT, () -> x.letter(letter, 1, 1));
        }
        int[][] wrong = {{-1, 1}, {11, 1}, {1, -1}, {1, 13}, {Integer.MIN_VALUE, 1}, {1, Integer.MAX_VALUE}};
        for (int[] numbers : wrong) {
            Check.thrown("out of range", Check.ARGUMENT, () -> x.letter('a', numbers[0], numbers[1]));
        }
        Check.thrown("too few blanks", Check.ARGUMENT, () -> x.letter('?', 0, -1));
        Check.thrown("too many blanks", Check.ARGUMENT, () -> x.letter('?', 0, 13));
        Check.due("it stays", 703, x.letter('a', 1, 1));
        Check.due("blanks stay", 1, x.letter('?', 0, 1));
    }

    private static void promise12LetterInGame() {
        Lexirack x = Check.tiles(new Lexirack(), "aaaa");
        Check.due("a bag of counts", 2, x.begin(1, 'v', 1));
        Check.thrown("a game goes on", Check.STATE, () -> x.letter('a', 1, 1));
        Check.thrown("a game goes on", Check.STATE, () -> x.letter('?', 1, 1));
        Check.thrown("a wrong number comes first", Check.ARGUMENT, () -> x.letter('a', 11, 1));
        for (int k = 0; k < 6; k++) {
            x.pass();
        }
        Check.due("values of the game", -1, x.score(0));
        Check.due("a game that is over", 104, x.letter('a', 9, 1));
        Check.due("it keeps its values", -1, x.score(0));
        Check.due("it keeps its counts", true, x.isSound());
        Check.due("the next game has the new counts", 0, x.begin(1, 'v', 1));
        Check.due("and no tile for the player 1", "", Check.rack(x, 1));
    }

    private static void promise13Weight() {
        Lexirack x = new Lexirack();
        Check.due("0 at first", 0, x.weight('a', 20));
        Check.due("the one before", 20, x.weight('a', -20));
        Check.due("the one before", -20, x.weight('a', 3));
        Check.due("blanks", 0, x.weight('?', 7));
        Check.due("h", 0, x.weight('h', 1));
        for (char letter : "i`AH@!".toCharArray()) {
            Check.thrown("no such letter", Check.ARGUMENT, () -> x.weight(letter, 1));
        }
        Check.thrown("too small", Check.ARGUMENT, () -> x.weight('a', -21));
        Check.thrown("too great", Check.ARGUMENT, () -> x.weight('a', 21));
        Check.due("it stays", 3, x.weight('a', 0));
        x.begin(1, 'v', 0);
        Check.due("in a game, too", 7, x.weight('?', 8));
    }

    private static void promise14Leave() {
        Lexirack x = new Lexirack();
        x.weight('a', 4);
        x.weight('b', -3);
        x.weight('?', 20);
        Check.due("nothing", 0, Check.typed(x, "").leave());
        Check.due("a vowel more", 4 - 3, Check.typed(x, "a").leave());
        Check.due("another letter more", -3 - 3, Check.typed(x, "b").leave());
        Check.due("as many", 1, Check.typed(x, "ab").leave());
        Check.due("a and e are vowels", 4 - 6, Check.typed(x, "ae").leave());
        Check.due("no others are", -3 * 5, Check.typed(x, "cdfgh").leave());
        Check.due("three more others", 4 - 3 * 3, Check.typed(x, "cdfghae").leave());
        Check.due("e and others", 0, Check.typed(x, "ec").leave());
        Check.due("two of a letter", 8 - 5 - 6, Check.typed(x, "aa").leave());
        Check.due("three of a letter", 12 - 10 - 9, Check.typed(x, "aaa").leave());
        Check.due("a blank is neither", 20, Check.typed(x, "?").leave());
        Check.due("two blanks", 40 - 5, Check.typed(x, "?C").leave());
        Check.due("capital letters are blanks", 60 - 10, Check.typed(x, "AEB").leave());
        Check.due("all sorts", 4 - 3 - 3 - 5 + 20 - 3, Check.typed(x, "aBbb").leave());
        Check.due("nine tiles", 4 * 4 - 15 - 5 * 3 - 20 - 3, Check.typed(x, "abababbab").leave());
        Check.due("the row stays", 9, x.wipe());
    }

    private static void promise15Board() {
        Lexirack x = new Lexirack();
        Check.due("the least", 9, x.board(3, 3));
        Check.due("its start", 101, x.start(0, 0));
        Check.due("the greatest", 81, x.board(9, 9));
        Check.due("its start", 404, x.start(0, 0));
        Check.due("its last cell", '.', x.cell(8, 8, 'D'));
        Check.due("another one", 24, x.board(8, 3));
        Check.due("its start, cut", 401, x.start(7, 2));
        Check.due("plain again", 54, x.board(9, 6));
        Check.due("plain", '.', x.cell(8, 5, '.'));
        Check.thrown("as many rows as told", Check.INDEX, () -> x.tile(0, 6));
        int[][] wrong = {{2, 3}, {3, 2}, {10, 3}, {3, 10}, {-3, -3}, {0, 0}, {Integer.MAX_VALUE, 3}};
        for (int[] sides : wrong) {
            Check.thrown("out of range", Check.ARGUMENT, () -> x.board(sides[0], sides[1]));
        }
        Check.due("it stays", '.', x.tile(8, 5));
        x.begin(1, 'v', 0);
        Check.thrown("a wrong number comes first", Check.ARGUMENT, () -> x.board(2, 2));
        Check.thrown("a game goes on", Check.STATE, () -> x.board(4, 4));
        for (int k = 0; k < 6; k++) {
            x.pass();
        }
        Check.due("a game that is over", 16, x.board(4, 4));
        Check.thrown("without a game", Check.STATE, x::isOver);
        Check.thrown("without a game", Check.STATE, x::checksum);
    }

    private static void promise16Cell() {
        Lexirack x = new Lexirack();
        String kinds = ".dtDT#";
        for (int k = 0; k < kinds.length(); k++) {
            char before = kinds.charAt(Math.max(0, k - 1));
            Check.due("the one before", before, x.cell(4, 0, kinds.charAt(k)));
        }
        Check.due("another cell", '.', x.cell(0, 4, 'd'));
        Check.due("the one before", '#', x.cell(4, 0, '.'));
        for (int[] cell : new int[][] {{-1, 0}, {0, -1}, {5, 0}, {0, 5}, {9, 9}, {Integer.MAX_VALUE, 0}, {0, Integer.MIN_VALUE}}) {
            Check.thrown("no such cell", Check.INDEX, () -> x.cell(cell[0], cell[1], 'd'));
            Check.thrown("no such cell comes first", Check.INDEX, () -> x.cell(cell[0], cell[1], 'q'));
        }
        for (char kind : "aqX,*\u0000\uffff".toCharArray()) {
            Check.thrown("no such kind", Check.ARGUMENT, () -> x.cell(0, 4, kind));
        }
        Check.due("it stays", 'd', x.cell(0, 4, '.'));
    }

    private static void promise16CellInGame() {
        Lexirack x = new Lexirack();
        x.cell(0, 0, '#');
        x.begin(1, 'v', 0);
        Check.thrown("no such cell comes first", Check.INDEX, () -> x.cell(5, 5, 'd'));
        Check.thrown("no such kind comes next", Check.ARGUMENT, () -> x.cell(0, 0, 'q'));
        Check.thrown("a game goes on", Check.STATE, () -> x.cell(0, 0, 'd'));
        for (int k = 0; k < 6; k++) {
            x.pass();
        }
        for (int cell = 0; cell < 25; cell++) {
            x.cell(cell % 5, cell / 5, '#');
        }
        Check.due("it keeps its cells", 0f, x.covered());
        x.begin(1, 'v', 0);
        Check.thrown("the next game has the new ones", Check.ARITHMETIC, x::covered);
    }

    private static void promise17Start() {
        Lexirack x = Check.tiles(Check.book("ab"), "aabb");
        Check.due("the first one", 202, x.start(4, 1));
        Check.due("the one before", 401, x.start(0, 3));
        for (int[] cell : new int[][] {{-1, 0}, {0, -1}, {5, 0}, {0, 5}, {Integer.MIN_VALUE, Integer.MAX_VALUE}}) {
            Check.thrown("no such cell", Check.INDEX, () -> x.start(cell[0], cell[1]));
        }
        Check.due("it stays", 3, x.start(4, 1));
        x.begin(2, 's', 0);
        Check.thrown("no such cell comes first", Check.INDEX, () -> x.start(5, 0));
        Check.thrown("a game goes on", Check.STATE, () -> x.start(0, 0));
        String rack = Check.rack(x, 0);
        Check.thrown("beside the start", Check.UNSUPPORTED, () -> Check.played(x, rack, 2, 1, false));
        Check.thrown("above it", Check.UNSUPPORTED, () -> Check.played(x, rack, 3, 0, false));
        Check.due("over the start", 52, Check.played(x, rack, 3, 1, false));
    }
}
