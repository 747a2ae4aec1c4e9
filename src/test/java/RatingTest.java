/** Promises 44 to 46: persons who sit, and ratings. */
public final class RatingTest {
    public static void main(String[] args) {
        promise44Sit();
        promise45Rate();
        promise45WrongCalls();
        promise45Draw();
        promise45FarApart();
        promise45ByThePointsThen();
        promise45BothByRatingsAsTheyWere();
        promise45Once();
        promise46Rating();
        Check.end("RatingTest");
    }

    private static void promise44Sit() {
        Lexirack x = new Lexirack();
        Check.due("0 sits as 0 at first", 0, x.sit(0, 5));
        Check.due("1 sits as 1 at first", 1, x.sit(1, 0));
        Check.due("the one before", 5, x.sit(0, 5));
        Check.thrown("it sits as the other one", Check.ARGUMENT, () -> x.sit(0, 0));
        Check.thrown("it sits as the other one", Check.ARGUMENT, () -> x.sit(1, 5));
        for (int player : new int[] {-1, 2, Integer.MAX_VALUE, Integer.MIN_VALUE}) {
            Check.thrown("no such player", Check.ARGUMENT, () -> x.sit(player, 3));
        }
        for (int person : new int[] {-1, 6, Integer.MAX_VALUE, Integer.MIN_VALUE}) {
            Check.thrown("no such person", Check.ARGUMENT, () -> x.sit(0, person));
        }
        x.begin(1, 'v', 0);
        Check.due("in a game, too", 5, x.sit(0, 2));
        over(x);
        x.board(3, 3);
        Check.due("it stays", 2, x.sit(0, 2));
        Check.due("it stays", 0, x.sit(1, 0));
    }

    private static Lexirack over(Lexirack x) {
        while (!x.isOver()) {
            x.pass();
        }
        return x;
    }

    /** A game that is over with one play of the player 0, who wins it, or loses it by the clock. */
    private static Lexirack lost(Lexirack x, int player) {
        x.begin(2, 'v', 0);
        if (player == 0) {
            x.spend(0, 3600);
        }
        x.playListed(0);
        return x;
    }

    private static Lexirack worthless() {
        return Check.values(Check.tiles(Check.book("aa"), "aa"), "a", 0);
    }

    private static void promise45Rate() {
        Lexirack x = worthless();
        Check.due("the player 0 wins: 20 times 50 by 100", 10, lost(x, 1).rate());
        Check.due("its rating", 1010, x.rating(0));
        Check.due("the other one's", 990, x.rating(1));
        Check.due("due is 52: 20 times -52 by 100, cut", -10, lost(x, 0).rate());
        Check.due("its rating", 1000, x.rating(0));
        Check.due("due is 48: 20 times 52 by 100, cut", 1000, x.rating(1));
        Check.due("persons who do not sit", 1000, x.rating(2));
    }

    private static void promise45WrongCalls() {
        Lexirack x = worthless();
        Check.thrown("no game", Check.STATE, x::rate);
        x.begin(1, 'v', 0);
        Check.thrown("not over", Check.STATE, x::rate);
        over(x);
        Check.due("a draw", 0, x.rate());
        Check.thrown("was rated", Check.STATE, x::rate);
        x.begin(1, 'v', 0);
        Check.thrown("another game, not over", Check.STATE, x::rate);
        over(x);
        Check.due("another game", 0, x.rate());
        x.board(5, 5);
        Check.thrown("no game any more", Check.STATE, x::rate);
    }

    private static void promise45Draw() {
        Lexirack x = worthless();
        for (int k = 0; k < 5; k++) {
            lost(x, 1).rate();
        }
        int lead = x.rating(0) - x.rating(1);
        Check.due("far ahead", true, lead >= 80);
        x.begin(1, 'v', 0);
        over(x);
        int due = 50 + lead / 8;
        Check.due("50 each", 20 * (50 - due) / 100, x.rate());
        Check.due("the other one gets as much", lead + 2 * (20 * (50 - due) / 100), x.rating(0) - x.rating(1));
    }

    /** The person 0 wins till due is 95 at most; then it gets 1 a game, and would lose 19. */
    private static void promise45FarApart() {
        Lexirack x = worthless();
        int first = 1000;
        int second = 1000;
        for (int game = 0; game < 90; game++) {
            int due = Math.min(95, 50 + (first - second) / 8);
            int rise = 20 * (100 - due) / 100;
            Check.due("game " + game, rise, lost(x, 1).rate());
            second += -20 * Math.max(5, 50 + (second - first) / 8) / 100;
            first += rise;
        }
        Check.due("the first one", first, x.rating(0));
        Check.due("the second one", second, x.rating(1));
        Check.due("far apart", true, first - second >= 400);
        Check.due("due is 95 at most", -19, lost(x, 0).rate());
        Check.due("due is 5 at least", second + 19, x.rating(1));
    }

    private static void promise45ByThePointsThen() {
        Lexirack x = worthless();
        lost(x, 0);
        x.time(3600);
        Check.due("by the time as it is told then: no loss", 10, x.rate());
        Lexirack z = Check.dealt(() -> Check.tiles(Check.book("ab"), "abb"), 2, 'f', "ab", "b");
        Check.played(z, "ab", 2, 2, false);
        Check.due("with what comes of the end", 10, z.rate());
        Lexirack y = Check.dealt(() -> Check.tiles(Check.book("ab"), "aabb"), 2, 'v', "ab", "ab");
        y.pass();
        y.playListed(0);
        Check.due("the player 1 has more", 56, y.score(1));
        Check.due("so the player 0 loses", -10, y.rate());
        Check.due("and the other one wins", 1010, y.rating(1));
    }

    private static void promise45BothByRatingsAsTheyWere() {
        Lexirack x = worthless();
        x.sit(0, 3);
        x.sit(1, 4);
        for (int k = 0; k < 4; k++) {
            lost(x, 1).rate();
        }
        int first = x.rating(3);
        int second = x.rating(4);
        x.sit(0, 2);
        Check.due("by who sits as it is rated", -20 * (50 + (1000 - second) / 8) / 100, lost(x, 0).rate());
        Check.due("the other one by the same ratings", second + 20 * (100 - (50 + (second - 1000) / 8)) / 100, x.rating(4));
        Check.due("who left keeps its rating", first, x.rating(3));
        Check.due("nobody else's changes", 3000, x.rating(0) + x.rating(1) + x.rating(5));
    }

    /** A game that was rated, and goes on behind a challenge, is not rated again. */
    private static void promise45Once() {
        Lexirack x = Check.dealt(() -> Check.tiles(Check.book("ab"), "abb"), 2, 's', "ab", "b");
        Check.played(x, "ba", 2, 2, false);
        Check.due("over", 10, x.rate());
        Check.due("taken back", true, x.challenge());
        over(x);
        Check.thrown("was rated", Check.STATE, x::rate);
    }

    private static void promise46Rating() {
        Lexirack x = new Lexirack();
        for (int person = 0; person < 6; person++) {
            Check.due("at first", 1000, x.rating(person));
        }
        for (int person : new int[] {-1, 6, Integer.MAX_VALUE, Integer.MIN_VALUE}) {
            Check.thrown("no such person", Check.ARGUMENT, () -> x.rating(person));
        }
    }
}
