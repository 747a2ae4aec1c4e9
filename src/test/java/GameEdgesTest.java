import java.util.List;
import java.util.function.Function;
import java.util.function.Supplier;

/**
 * Games, houses, turns and clocks (promises 18 to 22 and 27 to 35): each boundary that the document names, one step beyond
 * it, and that a refused call leaves all as it was.
 */
public final class GameEdgesTest {
    private static final int[] FAR = {Integer.MIN_VALUE, Integer.MAX_VALUE};

    public static void main(String[] args) {
        fullRacks();
        houses();
        seeds();
        wrapOfTheSeed();
        racksAsFarAsTheBagHasTiles();
        drawsAsFarAsTheBagHasTiles();
        beforeAGame();
        playersAndLetters();
        tilesOfAnExchange();
        bagOfAnExchange();
        exchangeOfBlanks();
        lastTurnOfAChallenge();
        challengedOnce();
        challengeOfTheLastPlay();
        lostIfTheGameGoesOn();
        fivePoints();
        takenBack();
        sixTurns();
        sixTurnsOfAllSorts();
        emptyRackAndBag();
        behindTheEnd();
        twiceTheOtherRack();
        minutesBegun();
        timesTold();
        secondsSpent();
        Check.end("GameEdgesTest");
    }

    private static Lexirack kit(String tiles, String... words) {
        return Check.tiles(Check.book(words), tiles);
    }

    private static Lexirack begun(Lexirack x, int full, char house) {
        x.begin(full, house, 0);
        return x;
    }

    private static Lexirack like(int tiles, int full, char house, String... words) {
        return begun(kit("aaaaaaaaaaaa".substring(0, tiles), words), full, house);
    }

    private static Lexirack passed(Lexirack x, int turns) {
        for (int k = 0; k < turns; k++) {
            x.pass();
        }
        return x;
    }

    private static Lexirack played(Lexirack x, String signs) {
        Check.played(x, signs, 2, 2, false);
        return x;
    }

    private static Lexirack going() {
        return Check.typed(played(like(12, 3, 's', "aa"), "aa"), "a");
    }

    /** "A full rack has 1 to 7 tiles." */
    private static void fullRacks() {
        for (int full = -1; full <= 9; full++) {
            int tiles = full;
            if (full >= 1 && full <= 7) {
                Lexirack x = new Lexirack();
                Check.due("a bag behind racks of " + full, 34 - 2 * full, x.begin(full, 'v', 5));
                Check.due("the rack of 0", full, Check.rack(x, 0).length());
                Check.due("the rack of 1", full, Check.rack(x, 1).length());
            } else {
                Looks.refused("racks of " + full, Check.ARGUMENT, () -> Check.typed(Check.book("ab"), "ab"), x -> x.begin(tiles, 'v', 5));
                Looks.refused("racks of " + full + ", in a game", Check.ARGUMENT, GameEdgesTest::going, x -> x.begin(tiles, 'v', 5));
            }
        }
        for (int far : FAR) {
            Check.thrown("racks of " + far, Check.ARGUMENT, () -> new Lexirack().begin(far, 'v', 5));
        }
    }

    private static void houses() {
        Check.signs("begin", "vsdf", Lexirack::new, (x, sign) -> x.begin(3, sign, 0));
        for (char house : "uwrtcegVSDF".toCharArray()) {
            Looks.refused("house " + house, Check.ARGUMENT, Lexirack::new, x -> x.begin(3, house, 0));
            Looks.refused("house " + house + " in a game", Check.ARGUMENT, GameEdgesTest::going, x -> x.begin(3, house, 0));
        }
    }

    /** "z, the seed at first, becomes z times 1103515245 plus 12345, as an int": the places of the first two tiles of all. */
    private static void seeds() {
        int[] seeds = {0, 1, -1, 2, Integer.MIN_VALUE, Integer.MIN_VALUE + 1, Integer.MAX_VALUE, Integer.MAX_VALUE - 1, 65535, 65536,
            -65536, 1103515245};
        for (int seed : seeds) {
            Lexirack x = new Lexirack();
            x.begin(1, 'v', seed);
            java.math.BigInteger z = next(java.math.BigInteger.valueOf(seed));
            Check.due("the tile of 0 by " + seed, String.valueOf(tileAt(place(z, 34), -1)), Check.rack(x, 0));
            int first = place(z, 34);
            z = next(z);
            Check.due("the tile of 1 by " + seed, String.valueOf(tileAt(place(z, 33), first)), Check.rack(x, 1));
        }
    }

    /** As a number without sign of 32 bits. */
    private static java.math.BigInteger next(java.math.BigInteger z) {
        return z.multiply(java.math.BigInteger.valueOf(1103515245)).add(java.math.BigInteger.valueOf(12345))
            .mod(java.math.BigInteger.ONE.shiftLeft(32));
    }

    private static int place(java.math.BigInteger z, int tiles) {
        return z.shiftRight(16).mod(java.math.BigInteger.valueOf(tiles)).intValue();
    }

    /** The tile at a place among four of each letter and two blanks, without the one that was drawn. */
    private static char tileAt(int place, int drawn) {
        StringBuilder bag = new StringBuilder("aaaabbbbccccddddeeeeffffgggghhhh??");
        if (drawn >= 0) {
            bag.deleteCharAt(drawn);
        }
        return bag.charAt(place);
    }

    /** "z without sign": with the sign a place would be another one, or less than 0. */
    private static void wrapOfTheSeed() {
        int negative = 0;
        for (int seed = 0; seed < 40; seed++) {
            int z = seed * 1103515245 + 12345;
            negative += z < 0 ? 1 : 0;
            Lexirack x = kit("aabbc");
            x.begin(1, 'v', seed);
            Check.due("by " + seed, String.valueOf("aabbc".charAt((int) (((z & 0xffffffffL) / 65536) % 5))), Check.rack(x, 0));
        }
        Check.due("some of them are less than 0 as an int", true, negative > 10 && negative < 30);
        Lexirack last = kit("ab");
        last.begin(1, 'v', 7);
        Check.due("of one tile the place is 0, whatever z is", 0, last.bag());
        Check.due("both are drawn", true, last.rack(0, 'a') + last.rack(1, 'a') == 1);
    }

    /** "The player 0 draws a full rack, as far as the bag has tiles, then the player 1." */
    private static void racksAsFarAsTheBagHasTiles() {
        for (int full = 1; full <= 7; full++) {
            for (int tiles = 0; tiles <= 12; tiles++) {
                Lexirack x = kit("aaaaaaaaaaaa".substring(0, tiles));
                Check.due(tiles + " tiles, the bag", Math.max(0, tiles - 2 * full), x.begin(full, 'd', tiles));
                Check.due(tiles + " tiles, the rack of 0", Math.min(full, tiles), x.rack(0, 'a'));
                Check.due(tiles + " tiles, the rack of 1", Math.max(0, Math.min(full, tiles - full)), x.rack(1, 'a'));
                Check.due(tiles + " tiles", true, x.isSound());
                Check.due(tiles + " tiles, it goes on", false, x.isOver());
            }
        }
    }

    /** "behind a play its player draws up to a full rack, as far as the bag has tiles" */
    private static void drawsAsFarAsTheBagHasTiles() {
        for (int bag = 0; bag <= 6; bag++) {
            for (int tiles = 2; tiles <= 3; tiles++) {
                Lexirack x = like(6 + bag, 3, 's');
                Check.due("the bag", bag, x.bag());
                played(x, "aaa".substring(0, tiles));
                Check.due("the bag behind " + tiles, Math.max(0, bag - tiles), x.bag());
                Check.due("the rack behind " + tiles, 3 - tiles + Math.min(bag, tiles), x.rack(0, 'a'));
                Check.due("the other rack", 3, x.rack(1, 'a'));
                Check.due("over with neither rack nor bag", tiles == 3 && bag == 0, x.isOver());
            }
        }
        Lexirack y = like(5, 3, 's');
        Check.due("a rack that was never full", 2, y.rack(1, 'a'));
        passed(y, 1);
        Check.due("draws nothing", 0, played(y, "aa").rack(1, 'a'));
    }

    /** "Throws IllegalStateException if there is no game": of all calls that ask for one. */
    private static void beforeAGame() {
        Supplier<Lexirack> maker = () -> Check.typed(Check.book("ab"), "ab");
        List<Function<Lexirack, Object>> calls = List.of(Lexirack::bag, Lexirack::mover, Lexirack::pass, Lexirack::isOver,
            Lexirack::exchange, Lexirack::challenge, x -> x.score(0), x -> x.score(2), x -> x.rack(0, 'a'), x -> x.rack(-1, 'i'),
            x -> x.spend(0, 0), x -> x.spend(2, -1), x -> x.holds('a', true), x -> x.holds('i', false));
        for (int k = 0; k < calls.size(); k++) {
            Looks.refused("call " + k + " without a game", Check.STATE, maker, calls.get(k));
        }
        Check.due("no tile", '.', maker.get().tile(4, 4));
        Looks.refused("no cell, without a game", Check.INDEX, maker, x -> x.tile(5, 4));
        Check.due("behind begin", 0, begun(maker.get(), 1, 'v').mover());
    }

    /** "0 or 1", "a to h, or ?" */
    private static void playersAndLetters() {
        for (int player : new int[] {-1, 2, Integer.MIN_VALUE, Integer.MAX_VALUE}) {
            Looks.refused("rack of " + player, Check.ARGUMENT, GameEdgesTest::going, x -> x.rack(player, 'a'));
            Looks.refused("score of " + player, Check.ARGUMENT, GameEdgesTest::going, x -> x.score(player));
            Looks.refused("spend of " + player, Check.ARGUMENT, GameEdgesTest::going, x -> x.spend(player, 1));
        }
        Check.due("rack of 0", 3, going().rack(0, 'a'));
        Check.due("rack of 1", 3, going().rack(1, 'a'));
        Check.due("score of 0", 2, going().score(0));
        Check.due("score of 1", 0, going().score(1));
        Check.signs("rack", "abcdefgh?", GameEdgesTest::going, (x, sign) -> x.rack(1, sign));
        for (char sign : "`iAH@>".toCharArray()) {
            Looks.refused("rack of " + sign, Check.ARGUMENT, GameEdgesTest::going, x -> x.rack(0, sign));
        }
    }

    private static void refusedExchange(String what, int tiles, int full, String signs) {
        Looks.refused(what, Check.UNSUPPORTED, () -> Check.typed(like(tiles, full, 'v'), signs), Lexirack::exchange);
    }

    /** "if the row is empty, or has what is not on the rack" */
    private static void tilesOfAnExchange() {
        for (int full = 1; full <= 5; full++) {
            refusedExchange("no tile", 12, full, "");
            refusedExchange("one more than the rack has", Math.min(12, 4 * full), full, "aaaaaa".substring(0, full + 1));
            refusedExchange("what is not on the rack", 12, full, "b");
            refusedExchange("a blank that is not on the rack", 12, full, "A");
            refusedExchange("a blank that is not on the rack", 12, full, "?");
        }
        for (int tiles = 1; tiles <= 4; tiles++) {
            Lexirack x = Check.typed(like(12, 4, 'v'), "aaaa".substring(0, tiles));
            Check.due("tiles", tiles, x.exchange());
            Check.due("the row is empty then", 0, x.wipe());
            Check.due("a full rack", 4, x.rack(0, 'a'));
            Check.due("the bag as it was", 4, x.bag());
            Check.due("the other one moves", 1, x.mover());
        }
        Looks.refused("nine of four", Check.UNSUPPORTED, () -> Check.typed(like(12, 4, 'v'), "aaaaaaaaa"), Lexirack::exchange);
        Looks.refused("over", Check.STATE, () -> Check.typed(passed(like(12, 4, 'v'), 6), "a"), Lexirack::exchange);
        Looks.refused("over, and no tile", Check.STATE, () -> passed(like(12, 4, 'v'), 6), Lexirack::exchange);
    }

    /** "the bag must have as many at least as a full rack", however few are exchanged. */
    private static void bagOfAnExchange() {
        for (int full = 1; full <= 4; full++) {
            for (int size = 1; size <= full; size++) {
                String signs = "aaaa".substring(0, size);
                refusedExchange("one fewer in the bag", 3 * full - 1, full, signs);
                Check.due("as many in the bag", size, Check.typed(like(3 * full, full, 'v'), signs).exchange());
                if (3 * full < 12) {
                    Check.due("one more in the bag", size, Check.typed(like(3 * full + 1, full, 'v'), signs).exchange());
                }
            }
            refusedExchange("an empty bag", 2 * full, full, "a");
        }
        Looks.refused("the bag has as many as are exchanged, not as a full rack", Check.UNSUPPORTED,
            () -> Check.typed(like(7, 3, 'v'), "a"), Lexirack::exchange);
    }

    private static Lexirack blanks(int blanks) {
        Lexirack x = kit("????????????".substring(0, blanks));
        x.begin(2, 'v', 0);
        return x;
    }

    /** "a capital letter being a blank" */
    private static void exchangeOfBlanks() {
        for (String signs : new String[] {"?", "A", "H", "??", "AB", "?H"}) {
            Check.due("blanks", signs.length(), Check.typed(blanks(6), signs).exchange());
            Looks.refused("one too few in the bag", Check.UNSUPPORTED, () -> Check.typed(blanks(5), signs), Lexirack::exchange);
        }
        Looks.refused("three of two", Check.UNSUPPORTED, () -> Check.typed(blanks(6), "A?B"), Lexirack::exchange);
        Looks.refused("a letter", Check.UNSUPPORTED, () -> Check.typed(blanks(6), "a"), Lexirack::exchange);
    }

    /** "if the last turn was no play, it was challenged, or the house is v" */
    private static void lastTurnOfAChallenge() {
        for (char house : "vsdf".toCharArray()) {
            Looks.refused("no turn", Check.UNSUPPORTED, () -> like(12, 3, house, "aa"), Lexirack::challenge);
            Looks.refused("a pass", Check.UNSUPPORTED, () -> passed(like(12, 3, house, "aa"), 1), Lexirack::challenge);
            Looks.refused("a pass behind a play", Check.UNSUPPORTED, () -> passed(played(like(12, 3, house, "aa"), "aa"), 1),
                Lexirack::challenge);
            Looks.refused("an exchange behind a play", Check.UNSUPPORTED, () -> exchanged(played(like(12, 3, house, "aa"), "aa")),
                Lexirack::challenge);
            Looks.refused("over by six turns", Check.UNSUPPORTED, () -> passed(played(like(12, 3, house, "aa"), "aa"), 6),
                Lexirack::challenge);
        }
        Looks.refused("a play, in the house v", Check.UNSUPPORTED, () -> played(like(12, 3, 'v', "aa"), "aa"), Lexirack::challenge);
        Looks.refused("over by a play, in the house v", Check.UNSUPPORTED, () -> played(like(4, 2, 'v', "aa"), "aa"), Lexirack::challenge);
        for (char house : "sdf".toCharArray()) {
            Check.due("a play", false, played(like(12, 3, house, "aa"), "aa").challenge());
            Check.due("a phony", true, played(like(12, 3, house), "aa").challenge());
        }
    }

    private static Lexirack exchanged(Lexirack x) {
        Check.typed(x, "a").exchange();
        return x;
    }

    private static Lexirack challenged(Lexirack x) {
        x.challenge();
        return x;
    }

    /** "can challenge the play just made, once" */
    private static void challengedOnce() {
        for (char house : "sdf".toCharArray()) {
            Looks.refused("lawful, twice", Check.UNSUPPORTED, () -> challenged(played(like(12, 3, house, "aa"), "aa")), Lexirack::challenge);
            Looks.refused("taken back, twice", Check.UNSUPPORTED, () -> challenged(played(like(12, 3, house), "aa")), Lexirack::challenge);
            Looks.refused("over and lawful, twice", Check.UNSUPPORTED, () -> challenged(played(like(4, 2, house, "aa"), "aa")),
                Lexirack::challenge);
            Looks.refused("struck behind a challenge, it is not challenged again", Check.UNSUPPORTED,
                () -> struck(challenged(played(like(12, 3, house, "aa"), "aa"))), Lexirack::challenge);
            Lexirack x = challenged(played(like(12, 3, house, "aa"), "aa"));
            Check.played(x, "a", 1, 2, false);
            Check.due("the next play can be challenged again", true, x.challenge());
        }
    }

    private static Lexirack struck(Lexirack x) {
        Check.typed(x, "aa").strike();
        return x;
    }

    private static void challengeOfTheLastPlay() {
        Lexirack x = played(like(12, 3, 's', "aa"), "aa");
        Check.played(x, "a", 1, 2, false);
        Check.due("the last one is no word", true, x.challenge());
        Check.due("just the last one is taken back", ".aa.", "" + x.tile(1, 2) + x.tile(2, 2) + x.tile(3, 2) + x.tile(4, 2));
        Lexirack y = played(like(12, 3, 's', "aaa"), "aa");
        Check.played(y, "a", 1, 2, false);
        Check.due("the one before is no word any more", false, y.challenge());
    }

    /** "with 'd' who challenged loses the turn, if the game goes on" */
    private static void lostIfTheGameGoesOn() {
        for (int tiles = 4; tiles <= 5; tiles++) {
            Lexirack x = challenged(played(like(tiles, 2, 'd', "aa"), "aa"));
            boolean isOver = tiles == 4;
            Check.due("over", isOver, x.isOver());
            Check.due("turns", isOver ? 1 : 2, x.turns());
            if (!isOver) {
                Check.due("the player 0 moves again", 0, x.mover());
                Check.due("a lost turn is one without a play", 2, x.pass());
            }
        }
        Lexirack y = challenged(played(like(12, 3, 'd'), "aa"));
        Check.due("taken back: who challenged loses nothing", 1, y.mover());
        Check.due("one turn", 1, y.turns());
        for (char house : "sf".toCharArray()) {
            Check.due("no turn is lost", 1, challenged(played(like(12, 3, house, "aa"), "aa")).mover());
        }
    }

    /** "with 'f' the other player gets 5", also if the game is over. */
    private static void fivePoints() {
        for (char house : "sdf".toCharArray()) {
            int prize = house == 'f' ? 5 : 0;
            Lexirack x = challenged(played(like(12, 3, house, "aa"), "aa"));
            Check.due("of the play and the challenge", 2 + prize, x.score(0));
            Check.due("of who challenged", 0, x.score(1));
            Lexirack y = challenged(played(passed(like(12, 3, house, "aa"), 1), "aa"));
            Check.due("of the player 1", 2 + prize, y.score(1));
            Lexirack z = challenged(played(like(4, 2, house, "aa"), "aa"));
            Check.due("over: twice two values more", 52 + 4 + prize, z.score(0));
            Lexirack back = challenged(played(like(12, 3, house), "aa"));
            Check.due("taken back", 0, back.score(0) + back.score(1));
            Check.due("sound", true, x.isSound() && y.isSound() && z.isSound() && back.isSound());
        }
    }

    /** "its tiles are on the rack again, what was drawn behind it is in the bag": with all, some and nothing drawn. */
    private static void takenBack() {
        for (int bag = 0; bag <= 4; bag++) {
            for (char house : "sdf".toCharArray()) {
                Lexirack x = played(like(6 + bag, 3, house), "aaa");
                Check.due("drawn", Math.min(3, bag), x.rack(0, 'a'));
                Check.due("over", bag == 0, x.isOver());
                Check.due("taken back", true, x.challenge());
                Check.due("the rack again", 3, x.rack(0, 'a'));
                Check.due("the bag again", bag, x.bag());
                Check.due("it goes on", false, x.isOver());
                Check.due("who challenged moves", 1, x.mover());
                Check.due("no points", 0, x.score(0));
                Check.due("a turn without a play", 2, x.pass());
            }
        }
    }

    /** "with six turns in a row without a play" */
    private static void sixTurns() {
        for (int before = 0; before <= 1; before++) {
            Lexirack x = like(12, 3, 's', "aa");
            if (before == 1) {
                played(x, "aa");
            }
            for (int turn = 1; turn <= 6; turn++) {
                Check.due("it goes on", false, x.isOver());
                Check.due("turns in a row", turn, x.pass());
            }
            Check.due("over", true, x.isOver());
            int turns = before;
            Looks.refused("pass", Check.STATE, () -> passed(turns == 1 ? played(like(12, 3, 's', "aa"), "aa") : like(12, 3, 's', "aa"), 6),
                Lexirack::pass);
        }
        Lexirack y = played(passed(like(12, 3, 's', "aa"), 5), "aa");
        Check.due("a play behind five", false, y.isOver());
        Check.due("five more", false, passed(y, 5).isOver());
        Check.due("six more", true, passed(y, 1).isOver());
    }

    /** "a play that was taken back being one of them", as an exchange, a pass, and a turn that was lost. */
    private static void sixTurnsOfAllSorts() {
        Lexirack x = played(passed(like(12, 3, 's'), 5), "aa");
        Check.due("a play behind five", false, x.isOver());
        Check.due("taken back", true, x.challenge());
        Check.due("six", true, x.isOver());
        Lexirack y = challenged(played(passed(like(12, 3, 's'), 4), "aa"));
        Check.due("five", false, y.isOver());
        Check.due("six", 6, y.pass());
        Lexirack z = challenged(played(like(12, 3, 'd', "aa"), "aa"));
        Check.due("five", 5, passed(z, 3).pass());
        Check.due("not over", false, z.isOver());
        Check.due("six, with a turn that was lost", true, exchanged(z).isOver());
        Lexirack lost = played(passed(like(12, 3, 'd', "aa"), 5), "aa");
        Check.due("lawful behind five", false, lost.challenge());
        Check.due("the play counts", false, lost.isOver());
        Check.due("the turn lost is the first", 2, lost.pass());
        Lexirack e = exchanged(exchanged(exchanged(exchanged(exchanged(like(12, 3, 'v'))))));
        Check.due("five exchanges", false, e.isOver());
        Check.due("six", true, exchanged(e).isOver());
    }

    /** "when a play leaves its player without tiles, the bag being empty" */
    private static void emptyRackAndBag() {
        Check.due("neither", true, played(like(6, 3, 's'), "aaa").isOver());
        Check.due("a tile on the rack", false, played(like(6, 3, 's'), "aa").isOver());
        Check.due("a tile was in the bag", false, played(like(7, 3, 's'), "aaa").isOver());
        Check.due("the other rack is empty", false, played(like(3, 3, 's'), "aa").isOver());
        Check.due("both racks are empty", true, played(like(3, 3, 's'), "aaa").isOver());
        Lexirack x = like(2, 3, 's');
        Check.due("an empty rack without a play", 1, x.pass());
        Check.due("goes on", false, x.isOver());
        Check.due("an empty rack of who passes", 2, x.pass());
        Check.due("goes on", false, x.isOver());
    }

    /** "Throws IllegalStateException if no game goes on": of all calls that ask for it, behind both ends. */
    private static void behindTheEnd() {
        List<Supplier<Lexirack>> makers = List.of(() -> Check.typed(passed(like(12, 3, 's', "aa"), 6), "a"),
            () -> Check.typed(played(like(6, 3, 's', "aa"), "aaa"), "a"));
        List<Function<Lexirack, Object>> calls = List.of(Lexirack::mover, Lexirack::pass, Lexirack::exchange, x -> x.spend(0, 1),
            x -> x.spend(-1, -1), x -> x.holds('a', true), x -> x.holds('i', true), Lexirack::value, Lexirack::solved);
        for (Supplier<Lexirack> maker : makers) {
            for (int k = 0; k < calls.size(); k++) {
                Looks.refused("call " + k + " behind the end", Check.STATE, maker, calls.get(k));
            }
            Looks.refused("score of none", Check.ARGUMENT, maker, x -> x.score(2));
            Looks.refused("rack of none", Check.ARGUMENT, maker, x -> x.rack(2, 'a'));
            Check.due("it answers still", true, maker.get().bag() >= 0 && maker.get().isOver() && maker.get().turns() > 0);
        }
    }

    /** "that player gets twice the values of the other one's rack; in the other one each loses the values of the own rack" */
    private static void twiceTheOtherRack() {
        for (int value : new int[] {0, 1, 10}) {
            for (int other = 0; other <= 3; other++) {
                Lexirack x = valued(value, 3 + other);
                played(x, "aaa");
                Check.due("the play, and twice the other rack", 3 * value + 50 + 2 * other * value, x.score(0));
                Check.due("the other one loses nothing", 0, x.score(1));
                Lexirack y = passed(valued(value, 3 + other), 5);
                Check.due("it goes on", 0, y.score(0) + y.score(1));
                y.pass();
                Check.due("each loses the own rack", -3 * value, y.score(0));
                Check.due("each loses the own rack", -other * value, y.score(1));
            }
        }
    }

    private static Lexirack valued(int value, int tiles) {
        return begun(Check.values(kit("aaaaaa".substring(0, tiles)), "a", value), 3, 's');
    }

    private static int lossBy(int told, int seconds) {
        Lexirack x = begun(Check.values(kit("aa"), "a", 0), 1, 'v');
        x.time(told);
        for (int rest = seconds; rest > 0; rest -= 3600) {
            x.spend(0, Math.min(rest, 3600));
        }
        passed(x, 5);
        Check.due("the end is not there yet", 0, x.score(0));
        x.pass();
        Check.due("the other one loses nothing", 0, x.score(1));
        return -x.score(0);
    }

    /** "Each minute, 60 seconds, begun beyond the time told, 600 seconds at first, costs 10" */
    private static void minutesBegun() {
        int[][] beyond = {{0, 0}, {1, 10}, {2, 10}, {59, 10}, {60, 10}, {61, 20}, {119, 20}, {120, 20}, {121, 30}, {600, 100}, {3000, 500},
            {3001, 510}};
        for (int[] each : beyond) {
            Check.due(each[0] + " beyond 600", each[1], lossBy(600, 600 + each[0]));
            Check.due(each[0] + " beyond 0", each[1], lossBy(0, each[0]));
            Check.due(each[0] + " beyond 3600", each[1], lossBy(3600, 3600 + each[0]));
        }
        Check.due("one second less than told", 0, lossBy(600, 599));
        Check.due("nothing spent", 0, lossBy(0, 0));
        Lexirack x = begun(Check.values(kit("aa"), "a", 0), 1, 'v');
        x.spend(1, 601);
        Check.due("600 at first", -10, passed(x, 6).score(1));
        Lexirack y = like(4, 2, 's', "aa");
        y.spend(0, 660);
        y.spend(1, 661);
        played(y, "aa");
        Check.due("also behind a play: 52, 4 and a minute", 52 + 4 - 10, y.score(0));
        Check.due("of the other one, too", -20, y.score(1));
    }

    /** "by the time as it is told when points are asked for", "0 to 3600" */
    private static void timesTold() {
        Lexirack x = begun(Check.values(kit("aa"), "a", 0), 1, 'v');
        x.spend(0, 3600);
        x.spend(0, 1);
        passed(x, 6);
        Check.due("600 at first", 600, x.time(3600));
        Check.due("a second beyond the greatest", -10, x.score(0));
        Check.due("the greatest", 3600, x.time(0));
        Check.due("61 minutes begun", -610, x.score(0));
        Check.due("the least", 0, x.time(3541));
        Check.due("60 beyond", -10, x.score(0));
        x.time(3540);
        Check.due("61 beyond", -20, x.score(0));
        for (int seconds : new int[] {-1, 3601, Integer.MIN_VALUE, Integer.MAX_VALUE}) {
            Looks.refused("time " + seconds, Check.ARGUMENT, GameEdgesTest::late, each -> each.time(seconds));
            Looks.refused("time " + seconds + " without a game", Check.ARGUMENT, Lexirack::new, each -> each.time(seconds));
        }
    }

    private static Lexirack late() {
        Lexirack x = like(6, 2, 's', "aa");
        x.time(100);
        x.spend(0, 160);
        x.spend(1, 161);
        return x;
    }

    /** "0 to 3600", "Returns how much it has spent." */
    private static void secondsSpent() {
        Lexirack x = late();
        Check.due("nothing more", 160, x.spend(0, 0));
        Check.due("the most at once", 3760, x.spend(0, 3600));
        Check.due("and again", 7360, x.spend(0, 3600));
        Check.due("of the other one", 162, x.spend(1, 1));
        for (int seconds : new int[] {-1, 3601, Integer.MIN_VALUE, Integer.MAX_VALUE}) {
            Looks.refused("spend " + seconds, Check.ARGUMENT, GameEdgesTest::late, each -> each.spend(0, seconds));
            Looks.refused("spend " + seconds, Check.ARGUMENT, GameEdgesTest::late, each -> each.spend(1, seconds));
        }
        Check.due("a new game, nothing spent", 0, begun(passed(x, 6), 1, 'v').spend(0, 0));
        Lexirack y = like(6, 2, 's', "aa");
        int spent = 0;
        for (int k = 0; k < 400; k++) {
            spent = y.spend(0, 3600);
        }
        Check.due("400 times the most", 1440000, spent);
        Check.due("minutes of it, and two tiles", -239900 - 2, passed(y, 6).score(0));
    }
}
