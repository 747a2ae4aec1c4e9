/** Promises 47 to 50: the checksum, what is covered, mean points, and a sound game. */
public final class SumTest {
    public static void main(String[] args) {
        promise47Checksum();
        promise47WithWhatChallengesBrought();
        promise48Covered();
        promise49MeanPoints();
        promise50IsSound();
        Check.end("SumTest");
    }

    private static long sum(String signs, int first, int second) {
        long sum = 7;
        for (char sign : signs.toCharArray()) {
            sum = 31 * sum + sign;
        }
        return 31 * (31 * sum + first) + second;
    }

    private static void promise47Checksum() {
        Lexirack x = new Lexirack();
        Check.thrown("no game", Check.STATE, x::checksum);
        x.board(3, 4);
        x.cell(0, 0, '#');
        x.begin(1, 'v', 0);
        Check.due("an empty board, a wall has no letter", sum(".".repeat(12), 0, 0), x.checksum());
        Lexirack y = Check.dealt(SumTest::small, 3, 's', "ab?", "bbb");
        Check.played(y, "aB", 0, 1, false);
        Check.due("row by row, a blank as a capital letter", sum("...aB....", 1, 0), y.checksum());
        Check.played(y, "b", 2, 1, false);
        Check.due("the other one's points", sum("...aBb...", 1, 2), y.checksum());
        y.spend(0, 3600);
        while (!y.isOver()) {
            y.pass();
        }
        Check.due("without what comes of the end", sum("...aBb...", 1, 2), y.checksum());
    }

    private static Lexirack small() {
        Lexirack x = Check.tiles(Check.book("ab", "abb"), "abbbbb?");
        x.board(3, 3);
        return x;
    }

    private static void promise47WithWhatChallengesBrought() {
        Lexirack x = Check.dealt(SumTest::small, 2, 'f', "ab", "bb");
        Check.played(x, "ab", 1, 1, true);
        x.challenge();
        Check.due("5 more", sum("....a..b.", 57, 0), x.checksum());
        Check.played(x, "bb", 0, 1, true);
        x.challenge();
        Check.due("taken back", sum("....a..b.", 57, 0), x.checksum());
    }

    private static void promise48Covered() {
        Lexirack x = new Lexirack();
        Check.thrown("no game", Check.STATE, x::covered);
        Lexirack y = Check.dealt(() -> walled(new int[] {0, 3, 6}), 2, 's', "ab", "bb");
        Check.due("nothing", 0f, y.covered());
        Check.played(y, "ab", 1, 1, true);
        Check.due("two of six", 2f / 6f, y.covered());
        Check.played(y, "b", 2, 1, true);
        Check.due("three of six", 0.5f, y.covered());
        y.pass();
        y.pass();
        while (!y.isOver()) {
            y.pass();
        }
        y.cell(0, 0, '.');
        Check.due("cells of the game", 0.5f, y.covered());
        Lexirack z = Check.tiles(new Lexirack(), "aa");
        z.board(3, 3);
        for (int cell = 0; cell < 9; cell++) {
            z.cell(cell % 3, cell / 3, '#');
        }
        z.begin(1, 'v', 0);
        Check.thrown("walls alone", Check.ARITHMETIC, z::covered);
    }

    private static Lexirack walled(int[] walls) {
        Lexirack x = small();
        for (int wall : walls) {
            x.cell(wall % 3, wall / 3, '#');
        }
        return x;
    }

    private static void promise49MeanPoints() {
        Lexirack x = new Lexirack();
        Check.thrown("no game", Check.STATE, x::meanPoints);
        Lexirack y = Check.dealt(SumTest::small, 3, 'f', "ab?", "bbb");
        Check.thrown("no plays", Check.ARITHMETIC, y::meanPoints);
        y.pass();
        y.pass();
        Check.thrown("passes are none", Check.ARITHMETIC, y::meanPoints);
        Check.played(y, "Ba", 0, 1, false);
        y.challenge();
        Check.thrown("nor is a play taken back", Check.ARITHMETIC, y::meanPoints);
        y.pass();
        Check.played(y, "ab", 0, 1, false);
        Check.due("one play", 2.0, y.meanPoints());
        y.challenge();
        Check.due("without what challenges brought", 2.0, y.meanPoints());
        y.pass();
        y.pass();
        Check.played(y, "b", 2, 1, false);
        Check.due("two plays of 2 and 3, by both players or one", 2.5, y.meanPoints());
        y.begin(3, 'v', 0);
        Check.thrown("another game", Check.ARITHMETIC, y::meanPoints);
        Lexirack z = Check.tiles(Check.book("aa"), "aaaaaaa");
        z.begin(2, 'v', 0);
        z.playListed(0);
        Check.due("the first turn", 52.0, z.meanPoints());
        z.pass();
        z.playListed(0);
        z.begin(3, 'v', 0);
        z.playListed(0);
        Check.due("plays of this game", 2.0, z.meanPoints());
    }

    private static void promise50IsSound() {
        Lexirack x = new Lexirack();
        Check.due("without a game", true, x.isSound());
        for (char house : "vsdf".toCharArray()) {
            for (int seed = 0; seed < 40; seed++) {
                Lexirack y = Check.book("ab", "ba", "aa", "aba", "abc", "ca");
                y.cell(1, 1, 'T');
                y.cell(0, 2, '#');
                y.begin(1 + seed % 7, house, seed);
                for (int turn = 0; turn < 30 && !y.isOver(); turn++) {
                    Check.due("in a game", true, y.isSound());
                    int plays = y.plays();
                    if (plays > 0) {
                        y.playListed((seed + turn) % plays);
                    } else {
                        y.pass();
                    }
                    Check.typed(y, "aa").word(turn % 3, 9);
                    y.edition(turn % 2);
                    if (house != 'v' && plays > 0 && turn % 3 == 0) {
                        y.challenge();
                    }
                }
                Check.due("behind it", true, y.isSound());
            }
        }
    }
}
