/** Promises 36 to 38: ends that are solved, and what the other one may hold. */
public final class EndTest {
    public static void main(String[] args) {
        promise36WrongCalls();
        promise36NoPlays();
        promise36GoingOut();
        promise36IsOfWhoMoves();
        promise36Blocks();
        promise36IdleTurns();
        promise36LawfulPlaysAlone();
        promise36Premiums();
        promise36ClocksAside();
        promise37Solved();
        promise37First();
        promise37Pass();
        promise38Holds();
        promise38Edges();
        promise38WrongCalls();
        Check.end("EndTest");
    }

    private static Lexirack dealt(String words, int[] values, int full, char house, String first, String second) {
        return Check.dealt(() -> Check.values(Check.tiles(Check.book(words.split(" ")), first + second), "abcdefgh", values),
            full, house, first, second);
    }

    private static void promise36WrongCalls() {
        Lexirack x = new Lexirack();
        Check.thrown("no game", Check.STATE, x::value);
        Check.thrown("no game", Check.STATE, x::solved);
        x.begin(2, 'v', 0);
        Check.thrown("the bag is not empty", Check.UNSUPPORTED, x::value);
        Check.thrown("the bag is not empty", Check.UNSUPPORTED, x::solved);
        while (!x.isOver()) {
            x.pass();
        }
        Check.thrown("the game is over", Check.STATE, x::value);
        Check.thrown("the game is over", Check.STATE, x::solved);
        Check.tiles(x, "aaaaa");
        x.begin(2, 'v', 0);
        Check.thrown("one in the bag", Check.UNSUPPORTED, x::value);
        x.begin(3, 'v', 0);
        Check.thrown("five tiles on both racks", Check.UNSUPPORTED, x::value);
        Check.thrown("five tiles on both racks", Check.UNSUPPORTED, x::solved);
        Check.due("nothing changed", 0, x.turns());
    }

    private static void promise36NoPlays() {
        Lexirack x = dealt("hh", new int[] {1, 2, 4, 8}, 2, 'v', "bd", "ac");
        Check.due("each loses the own rack", 5 - 10, x.value());
        Check.due("a pass", -1, x.solved());
        x.pass();
        Check.due("for the other one", 10 - 5, x.value());
        Lexirack y = Check.tiles(new Lexirack(), "");
        y.begin(7, 'v', 0);
        Check.due("no tiles", 0, y.value());
        Check.due("a pass", -1, y.solved());
    }

    private static void promise36GoingOut() {
        Lexirack x = dealt("bd", new int[] {1, 2, 4, 8}, 2, 'v', "bd", "ac");
        Check.due("a play, the full rack, and twice the other rack", 10 + 50 + 10, x.value());
        Check.due("the first of the list", 0, x.solved());
        x.playListed(x.solved());
        Check.due("it comes so", 70, x.score(0) - x.score(1));
    }

    private static void promise36IsOfWhoMoves() {
        Lexirack x = dealt("bd", new int[] {1, 2, 4, 8}, 2, 'v', "bd", "ac");
        x.pass();
        Check.due("the other one would go out", 0, x.plays());
        Check.due("less what the other one gets", -70, x.value());
        Check.due("a pass", -1, x.solved());
    }

    /**
     * The player 0 has a and b and could play ab for 2, which lets the other one go out with c behind it; b is worth
     * more kept, as with 1 the score is the least.
     */
    private static void promise36Blocks() {
        Lexirack x = dealt("ab abc", new int[] {1, 1, 10}, 3, 'v', "aab", "c");
        Check.due("ab, then abc: 2 less 12 less twice a", 2 - 12 - 2, scoreIfPlayed(x));
        Lexirack y = dealt("ab abc", new int[] {1, 1, 10}, 3, 'v', "aab", "c");
        Check.due("six passes are better: 10 - 3", 7, y.value());
        Check.due("so it passes", -1, y.solved());
        y.pass();
        Check.due("the other one has no play", -7, y.value());
    }

    private static int scoreIfPlayed(Lexirack x) {
        Check.played(x, "ab", 1, 2, false);
        Check.due("abc goes out", 12 + 2, x.value());
        x.playListed(x.solved());
        return x.score(0) - x.score(1);
    }

    /** With five turns without a play behind it, a pass ends the game; before, the other one could still play. */
    private static void promise36IdleTurns() {
        Lexirack x = dealt("cd", new int[] {1, 1, 9, 9}, 2, 'v', "ab", "cd");
        Check.due("the other one plays cd", -18 - 50 - 4, x.value());
        for (int k = 0; k < 4; k++) {
            x.pass();
        }
        Check.due("four turns behind it", -72, x.value());
        Lexirack y = dealt("cd", new int[] {1, 1, 9, 9}, 2, 'v', "cd", "ab");
        for (int k = 0; k < 5; k++) {
            y.pass();
        }
        Check.due("five turns behind it, a pass ends it", 18 - 2, y.value());
        y.pass();
        Check.due("it comes so", 16, y.score(1) - y.score(0));
    }

    private static void promise36LawfulPlaysAlone() {
        for (char house : "sdf".toCharArray()) {
            Lexirack x = dealt("ac", new int[] {1, 2, 4}, 2, house, "ab", "cc");
            Check.due("phonies are not chosen", 8 - 3, x.value());
            Check.typed(x, "ba").word(0, 9);
            Check.due("a word now", 3 + 50 + 16, x.value());
            x.edition(0);
            Check.typed(x, "ba").strike();
            Check.due("no word again", 5, x.value());
        }
    }

    /** A premium counts for the tiles of a play, not again for a later one along them. */
    private static void promise36Premiums() {
        Lexirack x = Check.dealt(EndTest::tripled, 3, 'v', "abd", "c");
        Check.due("ab thrice, then abc once", 9 - 5, x.value());
        Check.due("the first play", "1 2 right ab 9", Check.told(x, x.solved()));
        Check.played(x, "ab", 1, 2, false);
        Check.due("abc", 5, x.value());
    }

    private static Lexirack tripled() {
        Lexirack x = Check.values(Check.tiles(Check.book("ab", "abc"), "abcd"), "abcd", 1, 2, 2, 0);
        x.cell(1, 2, 'T');
        return x;
    }

    private static void promise36ClocksAside() {
        Lexirack x = dealt("hh", new int[] {1, 2, 4, 8}, 2, 'v', "bd", "ac");
        x.spend(0, 3600);
        Check.due("clocks aside", -5, x.value());
    }

    private static void promise37Solved() {
        Lexirack x = dealt("ab ba aab", new int[] {1, 3}, 3, 'v', "aab", "b");
        int value = x.value();
        int index = x.solved();
        Check.due("a play", true, index >= 0);
        int score = x.playListed(index);
        Check.due("it has this value", value, x.isOver() ? x.score(0) - x.score(1) : score - x.value());
    }

    private static void promise37First() {
        Lexirack x = dealt("aa", new int[] {1}, 2, 'v', "aa", "b");
        Check.due("four plays of one value", 4, x.plays());
        Check.due("the first one", 0, x.solved());
        Lexirack y = Check.dealt(() -> Check.values(Check.tiles(Check.book("ab", "ba", "a".repeat(3)), "aba"), "ab", 0, 0), 3,
            'v', "aab", "");
        Check.due("nothing to win", 0, y.value());
        Check.due("a play ahead of a pass that has it, too", 0, y.solved());
    }

    private static void promise37Pass() {
        Lexirack x = dealt("ab abc", new int[] {1, 1, 10}, 3, 'v', "aab", "c");
        Check.due("plays", 4, x.plays());
        Check.due("none of them has the value", -1, x.solved());
        Check.due("the list stays", 4, x.plays());
        Check.due("the first one, too", "2 1 below ab 2", Check.told(x, 0));
    }

    /** The other one has two of six unseen tiles, three a, two b, one c. */
    private static void promise38Holds() {
        Lexirack x = Check.dealt(() -> Check.tiles(new Lexirack(), "aaabbc??"), 2, 'v', "??", "ab");
        due(x, 'a', 4, 5);
        due(x, 'b', 3, 5);
        due(x, 'c', 1, 3);
        due(x, '?', 0, 1);
        due(x, 'h', 0, 1);
        x.pass();
        due(x, '?', 15 - 6, 15);
        due(x, 'c', 1, 3);
    }

    private static void due(Lexirack x, char letter, long upper, long lower) {
        long common = java.math.BigInteger.valueOf(upper).gcd(java.math.BigInteger.valueOf(lower)).longValue();
        Check.due("the upper number for " + letter, upper / common, x.holds(letter, false));
        Check.due("the lower number for " + letter, lower / common, x.holds(letter, true));
    }

    private static void promise38Edges() {
        Lexirack x = Check.tiles(new Lexirack(), "aaaaa");
        x.begin(2, 'v', 0);
        due(x, 'a', 1, 1);
        due(x, 'b', 0, 1);
        Lexirack y = Check.tiles(new Lexirack(), "a");
        y.begin(1, 'v', 0);
        due(y, 'a', 0, 1);
        y.pass();
        due(y, 'a', 1, 1);
        Lexirack z = new Lexirack();
        for (char letter : "abcdefgh".toCharArray()) {
            z.letter(letter, 1, 12);
        }
        z.letter('?', 0, 12);
        z.begin(7, 'v', 0);
        int own = z.rack(0, '?');
        long all = choose(101, 7);
        due(z, '?', all - choose(101 - 12 + own, 7), all);
    }

    private static long choose(int of, int taken) {
        return taken == 0 ? 1 : choose(of - 1, taken - 1) * of / taken;
    }

    private static void promise38WrongCalls() {
        Lexirack x = new Lexirack();
        Check.thrown("no game comes first", Check.STATE, () -> x.holds('x', false));
        x.begin(2, 'v', 0);
        for (char letter : "iAH@`!".toCharArray()) {
            Check.thrown("no such letter", Check.ARGUMENT, () -> x.holds(letter, true));
        }
        while (!x.isOver()) {
            x.pass();
        }
        Check.thrown("the game is over", Check.STATE, () -> x.holds('a', false));
    }
}
