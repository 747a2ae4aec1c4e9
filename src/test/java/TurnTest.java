/** Promises 27, 28 and 30 to 35: plays, exchanges, passes, the end of a game, scores and clocks. */
public final class TurnTest {
    public static void main(String[] args) {
        promise27Play();
        promise27WhatCannotBeLaid();
        promise27OverTiles();
        promise27Apart();
        promise27Unlawful();
        promise27Draws();
        promise28PlayListed();
        promise30Exchange();
        promise30ExchangeDraws();
        promise30WhatCannotBeExchanged();
        promise31Pass();
        promise32IsOver();
        promise33ScoreOfWentOut();
        promise33ScoreOfSixTurns();
        promise34Spend();
        promise34ClockOfBothEnds();
        promise35Time();
        Check.end("TurnTest");
    }

    private static void passes(Lexirack x, int many) {
        for (int k = 0; k < many; k++) {
            x.pass();
        }
    }

    private static Lexirack sixTiles() {
        return Check.tiles(Check.book("ab", "ba", "aab", "baa"), "aab?bb");
    }

    private static void promise27Play() {
        Lexirack none = new Lexirack();
        Check.thrown("no game comes first", Check.STATE, () -> none.play(-1, -1, false));
        Lexirack x = Check.dealt(TurnTest::sixTiles, 3, 's', "aab", "bb?");
        Check.due("a play to the right", 2, Check.played(x, "ab", 1, 2, false));
        Check.due("the row is empty then", 0, x.wipe());
        Check.due("its tiles lie there", "ab", "" + x.tile(1, 2) + x.tile(2, 2));
        Check.due("they are not on the rack", "a", Check.rack(x, 0));
        Check.due("the other one moves", 1, x.mover());
        Check.due("its score", 2, x.score(0));
        Check.due("below, over a tile, a blank counting 0", 53, Check.played(x, "bAb", 2, 1, true));
        Check.due("over the tile", "bbAb", "" + x.tile(2, 1) + x.tile(2, 2) + x.tile(2, 3) + x.tile(2, 4));
        Check.due("a turn each", 2, x.turns());
        for (int[] cell : new int[][] {{-1, 0}, {0, -1}, {5, 0}, {0, 5}, {Integer.MAX_VALUE, 0}}) {
            Check.thrown("it is over, this comes first", Check.STATE, () -> x.play(cell[0], cell[1], false));
        }
    }

    private static void promise27WhatCannotBeLaid() {
        Lexirack x = sixTiles();
        x.cell(3, 2, '#');
        x.begin(6, 's', 0);
        Check.due("all tiles", "aabbb?", Check.rack(x, 0));
        Check.typed(x, "ab");
        for (int[] cell : new int[][] {{-1, 0}, {0, -1}, {5, 0}, {0, 5}, {Integer.MAX_VALUE, 0}, {0, Integer.MIN_VALUE}}) {
            Check.thrown("no such cell", Check.INDEX, () -> x.play(cell[0], cell[1], false));
        }
        Check.thrown("no such cell ahead of an empty row", Check.INDEX, () -> Check.played(x, "", 5, 5, true));
        Check.thrown("over a wall", Check.UNSUPPORTED, () -> Check.played(x, "ab", 2, 2, false));
        Check.thrown("on a wall", Check.UNSUPPORTED, () -> Check.played(x, "ab", 3, 2, true));
        Check.thrown("over an edge", Check.UNSUPPORTED, () -> Check.played(x, "aabb", 2, 2, true));
        Check.thrown("not over the start", Check.UNSUPPORTED, () -> Check.played(x, "ab", 0, 2, false));
        Check.thrown("nothing", Check.UNSUPPORTED, () -> Check.played(x, "", 2, 2, false));
        Check.thrown("no word", Check.UNSUPPORTED, () -> Check.played(x, "a", 2, 2, false));
        Check.thrown("a blank for none", Check.UNSUPPORTED, () -> Check.played(x, "a?", 1, 2, false));
        Check.thrown("too many", Check.UNSUPPORTED, () -> Check.played(x, "aaa", 0, 2, false));
        Check.thrown("more blanks than one", Check.UNSUPPORTED, () -> Check.played(x, "AB", 1, 2, false));
        Check.thrown("none of it", Check.UNSUPPORTED, () -> Check.played(x, "ac", 1, 2, false));
        Check.thrown("more than a rack", Check.UNSUPPORTED, () -> Check.played(x, "aabbbCaab", 1, 2, false));
        Check.due("the row stays", 9, x.wipe());
        Check.due("nothing was played", 0, x.turns());
        Check.due("nothing lies there", 0f, x.covered());
        Check.due("the blank as any letter, not lawful", 2, Check.played(x, "aaH", 0, 2, false));
    }

    private static void promise27OverTiles() {
        Lexirack y = Check.dealt(() -> Check.tiles(Check.book("aa", "baab"), "aaabb"), 2, 'v', "aa", "bb");
        Check.played(y, "aa", 2, 2, false);
        Check.thrown("its first cell is not free", Check.UNSUPPORTED, () -> Check.played(y, "bb", 2, 2, false));
        Check.thrown("nor another one that has a tile", Check.UNSUPPORTED, () -> Check.played(y, "bb", 3, 2, false));
        Check.due("beyond tiles that lie there", 54, Check.played(y, "bb", 1, 2, false));
        Check.due("the last tile", 'b', y.tile(4, 2));
        Check.due("the bag is empty, and so is the rack", true, y.isOver());
    }

    private static void promise27Apart() {
        Lexirack x = Check.dealt(() -> Check.tiles(Check.book("aa"), "aabbcc"), 2, 's', "aa", "bb");
        Check.played(x, "aa", 2, 2, false);
        Check.thrown("apart from the tiles", Check.UNSUPPORTED, () -> Check.played(x, "bb", 0, 0, false));
        Check.thrown("aslant from them", Check.UNSUPPORTED, () -> Check.played(x, "bb", 0, 1, false));
        Check.thrown("aslant, below", Check.UNSUPPORTED, () -> Check.played(x, "bb", 4, 3, true));
        Check.thrown("a tile apart", Check.UNSUPPORTED, () -> Check.played(x, "b", 0, 2, false));
        Check.due("its last tile beside them", 52 + 2, Check.played(x, "bb", 1, 1, false));
    }

    private static void promise27Unlawful() {
        for (char house : "vsdf".toCharArray()) {
            Lexirack x = Check.tiles(Check.book("ab"), "abab");
            x.letter('b', 5, 2);
            x.begin(4, house, 0);
            if (house == 'v') {
                Check.thrown("not lawful", Check.UNSUPPORTED, () -> Check.played(x, "ba", 2, 2, false));
                Check.due("the row stays", 2, x.wipe());
                Check.due("nothing lies there", '.', x.tile(2, 2));
                Check.due("its turn still", 0, x.mover());
                Check.due("lawful", 6, Check.played(x, "ab", 2, 2, true));
            } else {
                Check.due("a phony", 6, Check.played(x, "ba", 2, 2, false));
                Check.due("it stands", 'b', x.tile(2, 2));
                Check.due("it scores", 6, x.score(0));
            }
        }
        Lexirack y = Check.tiles(Check.book("ab", "ba"), "ababa");
        y.begin(5, 'v', 0);
        Check.played(y, "ab", 2, 2, false);
        y.pass();
        Check.thrown("lawful along, not across", Check.UNSUPPORTED, () -> Check.played(y, "ab", 2, 3, false));
        Check.due("lawful along and across", 6, Check.played(y, "ba", 2, 3, false));
    }

    private static void promise27Draws() {
        Lexirack x = Check.tiles(Check.book("aa", "aaa"), "aaaaaaaa");
        x.begin(3, 'v', 0);
        Check.played(x, "aa", 2, 2, false);
        Check.due("up to a full rack", 3, x.rack(0, 'a'));
        Check.due("out of the bag", 0, x.bag());
        Check.played(x, "a", 1, 2, false);
        Check.due("as far as the bag has tiles", 2, x.rack(1, 'a'));
        Check.due("sound", true, x.isSound());
    }

    private static void promise28PlayListed() {
        Lexirack none = new Lexirack();
        Check.thrown("no game comes first", Check.STATE, () -> none.playListed(-1));
        Lexirack x = Check.dealt(TurnTest::sixTiles, 3, 'v', "aab", "bb?");
        int many = x.plays();
        for (int index : new int[] {-1, many, Integer.MAX_VALUE, Integer.MIN_VALUE}) {
            Check.thrown("no such play", Check.ELEMENT, () -> x.playListed(index));
        }
        Check.typed(x, "hh");
        String tiles = Check.tilesOf(x, many - 1);
        int column = x.playAt(many - 1, 'x');
        int line = x.playAt(many - 1, 'y');
        int score = x.playAt(many - 1, 's');
        Check.due("its score", score, x.playListed(many - 1));
        Check.due("its first tile", tiles.charAt(0), x.tile(column, line));
        Check.due("the row stays", 2, x.wipe());
        Check.due("the turn", score, x.turnAt(0, 's'));
        Check.due("the other one moves", 1, x.mover());
        passes(x, 6);
        Check.thrown("the game is over", Check.STATE, () -> x.playListed(0));
    }

    private static void promise30Exchange() {
        Lexirack none = new Lexirack();
        Check.thrown("no game", Check.STATE, none::exchange);
        Lexirack x = Check.tiles(new Lexirack(), "aaaaaa??????");
        x.begin(3, 'v', 9);
        String rack = Check.rack(x, 0);
        String row = rack.replace('?', 'G');
        Check.due("all tiles", 3, Check.typed(x, row).exchange());
        Check.due("the row is empty then", 0, x.wipe());
        Check.due("a full rack", 3, Check.rack(x, 0).length());
        Check.due("the bag has as many as before", 6, x.bag());
        Check.due("the other one moves", 1, x.mover());
        Check.due("a turn", 1, x.turnAt(0, 'k'));
        Check.due("without points", 0, x.turnAt(0, 's'));
        Check.due("one tile", 1, Check.typed(x, Check.rack(x, 1).substring(0, 1)).exchange());
        Check.due("sound", true, x.isSound());
        Check.due("turns without a play", 3, x.pass());
    }

    /** The tiles put aside are not drawn again: of one a and one b left, both come. */
    private static void promise30ExchangeDraws() {
        for (int seed = 0; seed < 20; seed++) {
            Lexirack x = Check.tiles(new Lexirack(), "aaaabb");
            x.begin(2, 'v', seed);
            String bag = "aaaabb";
            for (char each : (Check.rack(x, 0) + Check.rack(x, 1)).toCharArray()) {
                bag = bag.replaceFirst(String.valueOf(each), "");
            }
            Check.typed(x, Check.rack(x, 0)).exchange();
            Check.due("what was in the bag", bag, Check.rack(x, 0));
        }
    }

    private static void promise30WhatCannotBeExchanged() {
        Lexirack x = Check.tiles(new Lexirack(), "aaaaaaa?");
        x.begin(2, 'v', 0);
        Check.thrown("an empty row", Check.UNSUPPORTED, () -> Check.typed(x, "").exchange());
        Check.thrown("not on the rack", Check.UNSUPPORTED, () -> Check.typed(x, "h").exchange());
        Check.thrown("not as often", Check.UNSUPPORTED, () -> Check.typed(x, "aaa").exchange());
        Check.thrown("more blanks than one", Check.UNSUPPORTED, () -> Check.typed(x, "?A").exchange());
        Check.thrown("more than a rack", Check.UNSUPPORTED, () -> Check.typed(x, "aaaaaaaa?").exchange());
        Check.due("the row stays", 9, x.wipe());
        Check.due("no turn", 0, x.turns());
        Lexirack y = Check.tiles(new Lexirack(), "aaaaaaaa");
        y.begin(3, 'v', 0);
        Check.due("two in the bag, three on a rack", 2, y.bag());
        Check.thrown("fewer than a full rack", Check.UNSUPPORTED, () -> Check.typed(y, "a").exchange());
        Check.tiles(over(y), "aaaaaaaaa");
        y.begin(3, 'v', 0);
        Check.due("as many as a full rack", 1, Check.typed(y, "a").exchange());
        over(y);
        Check.thrown("the game is over", Check.STATE, () -> Check.typed(y, "a").exchange());
    }

    private static Lexirack over(Lexirack x) {
        while (!x.isOver()) {
            x.pass();
        }
        return x;
    }

    private static void promise31Pass() {
        Lexirack none = new Lexirack();
        Check.thrown("no game", Check.STATE, none::pass);
        Lexirack x = Check.tiles(Check.book("aa"), "aaaaaaaaa");
        x.begin(2, 'v', 0);
        Check.due("one", 1, x.pass());
        Check.due("two", 2, x.pass());
        Check.due("a pass", 2, x.turnAt(1, 'k'));
        Check.typed(x, "a").exchange();
        Check.due("an exchange is no play", 4, x.pass());
        Check.played(x, "aa", 2, 2, false);
        Check.due("in a row", 1, x.pass());
        for (int k = 2; k <= 6; k++) {
            Check.due("in a row", k, x.pass());
        }
        Check.thrown("the game is over", Check.STATE, x::pass);
    }

    private static void promise32IsOver() {
        Lexirack none = new Lexirack();
        Check.thrown("no game", Check.STATE, none::isOver);
        Lexirack x = Check.tiles(Check.book("aa"), "aaaa");
        x.begin(2, 'v', 0);
        passes(x, 5);
        Check.due("five turns without a play", false, x.isOver());
        x.pass();
        Check.due("six turns without a play", true, x.isOver());
        x.begin(2, 'v', 0);
        Check.due("a new game", false, x.isOver());
        x.pass();
        Check.played(x, "aa", 2, 2, false);
        Check.due("a rack is empty, and so is the bag", true, x.isOver());
        Check.tiles(x, "aaaaa");
        x.begin(2, 'v', 0);
        Check.played(x, "aa", 2, 2, false);
        Check.due("a tile was drawn", false, x.isOver());
    }

    private static Lexirack valued() {
        return Check.values(Check.tiles(Check.book("ab"), "abcd?"), "abcd", 1, 2, 4, 8);
    }

    private static void promise33ScoreOfWentOut() {
        Lexirack none = new Lexirack();
        Check.thrown("no game comes first", Check.STATE, () -> none.score(7));
        Lexirack x = Check.dealt(TurnTest::valued, 3, 'v', "ab?", "cd");
        for (int player : new int[] {-1, 2, Integer.MAX_VALUE}) {
            Check.thrown("no such player", Check.ARGUMENT, () -> x.score(player));
        }
        Check.played(x, "ab", 2, 2, false);
        Check.due("it goes on: no end is counted", 3, x.score(0));
        Check.due("the other one has nothing", 0, x.score(1));
        Lexirack y = Check.dealt(TurnTest::valued, 3, 's', "ab?", "cd");
        Check.due("all three", 53, Check.played(y, "abH", 1, 2, false));
        Check.due("and twice the values of the other rack", 53 + 24, y.score(0));
        Check.due("which loses nothing", 0, y.score(1));
        y.letter('c', 10, 1);
        Check.due("values of the game", 53 + 24, y.score(0));
    }

    private static void promise33ScoreOfSixTurns() {
        Lexirack x = Check.dealt(TurnTest::valued, 3, 'v', "ab?", "cd");
        Check.played(x, "ab", 2, 2, false);
        passes(x, 5);
        Check.due("it goes on", 3, x.score(0));
        x.pass();
        Check.due("a blank has no value", 3, x.score(0));
        Check.due("it loses its own rack", -12, x.score(1));
        Lexirack y = Check.dealt(TurnTest::valued, 2, 'v', "ac", "bd");
        passes(y, 6);
        Check.due("both lose, the first", -5, y.score(0));
        Check.due("both lose, the second", -10, y.score(1));
    }

    private static void promise34Spend() {
        Lexirack none = new Lexirack();
        Check.thrown("no game comes first", Check.STATE, () -> none.spend(5, -5));
        Lexirack x = Check.tiles(Check.values(new Lexirack(), "a", 0), "aaaa");
        x.begin(1, 'v', 0);
        Check.due("spent", 3600, x.spend(0, 3600));
        Check.due("and more", 3600, x.spend(0, 0));
        Check.due("and more", 3601, x.spend(0, 1));
        Check.due("the other one", 600, x.spend(1, 600));
        for (int seconds : new int[] {-1, 3601, Integer.MIN_VALUE, Integer.MAX_VALUE}) {
            Check.thrown("out of range", Check.ARGUMENT, () -> x.spend(0, seconds));
        }
        for (int player : new int[] {-1, 2}) {
            Check.thrown("no such player", Check.ARGUMENT, () -> x.spend(player, 1));
        }
        passes(x, 5);
        Check.due("nothing is lost while it goes on", 0, x.score(0));
        x.pass();
        Check.due("51 minutes begun", -510, x.score(0));
        Check.due("none begun", 0, x.score(1));
        Check.thrown("the game is over", Check.STATE, () -> x.spend(0, 1));
    }

    private static void promise34ClockOfBothEnds() {
        for (int second : new int[] {600, 601, 660, 661, 720, 721}) {
            Lexirack x = Check.dealt(TurnTest::valued, 3, 's', "ab?", "cd");
            x.spend(0, second);
            x.spend(1, second);
            Check.played(x, "abH", 1, 2, false);
            int minutes = second == 600 ? 0 : second <= 660 ? 1 : second <= 720 ? 2 : 3;
            Check.due("at " + second, 77 - 10 * minutes, x.score(0));
            Check.due("the other one, at " + second, -10 * minutes, x.score(1));
        }
    }

    private static void promise35Time() {
        Lexirack x = Check.tiles(Check.values(new Lexirack(), "a", 0), "aaaa");
        Check.due("at first", 600, x.time(3600));
        Check.due("the one before", 3600, x.time(0));
        for (int seconds : new int[] {-1, 3601, Integer.MIN_VALUE, Integer.MAX_VALUE}) {
            Check.thrown("out of range", Check.ARGUMENT, () -> x.time(seconds));
        }
        x.begin(1, 'v', 0);
        x.spend(0, 61);
        Check.due("in a game, too", 0, x.time(60));
        passes(x, 6);
        Check.due("as it is told now", -10, x.score(0));
        Check.due("told anew", 60, x.time(0));
        Check.due("as it is told now", -20, x.score(0));
        Check.due("told anew", 0, x.time(61));
        Check.due("as it is told now", 0, x.score(0));
        x.begin(1, 'v', 0);
        Check.due("it stays for the next game", 61, x.time(61));
    }
}
