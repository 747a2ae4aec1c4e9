import java.util.List;
import java.util.function.Function;
import java.util.function.Supplier;

/**
 * Ends, sheets, ratings and sums (promises 36 to 50): each boundary that the document names, one step beyond it, and that
 * a refused call leaves all as it was.
 */
public final class EndEdgesTest {
    public static void main(String[] args) {
        tilesOfAnEnd();
        bagOfAnEnd();
        sixTurnsOfAnEnd();
        fiftyInAnEnd();
        passOrPlay();
        fourTilesOneByOne();
        holdsNoneOrAll();
        signsHeld();
        withoutAGame();
        turnsThatThereAre();
        thingsOfATurn();
        pointsTold();
        faults();
        sheetSums();
        personsAndPlayers();
        sitsAsTheOtherOne();
        ratedOnce();
        halfEach();
        dueByEighths();
        dueAtLeastAndAtMost();
        bothByRatingsAsTheyWere();
        checksums();
        shareOfCells();
        meanOfPlays();
        soundInAllStates();
        lastCall();
        Check.end("EndEdgesTest");
    }

    private static Lexirack kit(String tiles, String... words) {
        return Check.tiles(Check.book(words), tiles);
    }

    private static Lexirack begun(Lexirack x, int full, char house) {
        x.begin(full, house, 0);
        return x;
    }

    private static Lexirack like(int tiles, int full, char house, String... words) {
        return begun(kit("aaaaaaaaaaaa".substring(0, tiles), words), full, house);
    }

    private static Lexirack passed(Lexirack x, int turns) {
        for (int k = 0; k < turns; k++) {
            x.pass();
        }
        return x;
    }

    private static Lexirack played(Lexirack x, String signs) {
        Check.played(x, signs, 2, 2, false);
        return x;
    }

    private static void noEnd(String what, Supplier<Lexirack> maker) {
        Looks.refused("value, " + what, Check.UNSUPPORTED, maker, Lexirack::value);
        Looks.refused("solved, " + what, Check.UNSUPPORTED, maker, Lexirack::solved);
    }

    /** "With an empty bag and at most 4 tiles on both racks together" */
    private static void tilesOfAnEnd() {
        for (int tiles = 0; tiles <= 6; tiles++) {
            int held = tiles;
            if (tiles <= 4) {
                int second = Math.max(0, tiles - 3);
                Check.due(tiles + " tiles, no word", second - Math.min(3, tiles), like(tiles, 3, 'v').value());
                Check.due(tiles + " tiles, a pass", -1, like(tiles, 3, 'v').solved());
            } else {
                noEnd(tiles + " tiles", () -> like(held, 3, 'v'));
            }
        }
        Check.due("four on one rack", -4, like(4, 4, 'v').value());
        Check.due("two and two", 0, like(4, 2, 'v').value());
        noEnd("five on one rack", () -> like(5, 5, 'v'));
        noEnd("five on one rack, the other one to move", () -> passed(like(5, 5, 'v'), 1));
        noEnd("six, a tile of them laid", () -> played(like(7, 4, 's'), "aa"));
        Check.due("six, two of them laid", 1 - 3, played(like(6, 3, 's'), "aa").value());
        noEnd("taken back, they are six again", () -> challenged(played(like(6, 3, 's'), "aa")));
    }

    private static Lexirack challenged(Lexirack x) {
        x.challenge();
        return x;
    }

    private static void bagOfAnEnd() {
        noEnd("a tile in the bag", () -> like(3, 1, 'v'));
        noEnd("a tile in the bag", () -> like(5, 2, 'v'));
        Check.due("none in the bag", 0, like(2, 1, 'v').value());
        noEnd("a tile in the bag, a pass behind", () -> passed(like(3, 1, 's'), 1));
        for (Supplier<Lexirack> maker : List.<Supplier<Lexirack>>of(Lexirack::new, () -> passed(like(4, 2, 'v'), 6),
            () -> played(like(4, 2, 's'), "aa"), () -> passed(like(12, 2, 'v'), 6))) {
            Looks.refused("value, no game goes on", Check.STATE, maker, Lexirack::value);
            Looks.refused("solved, no game goes on", Check.STATE, maker, Lexirack::solved);
        }
    }

    /** Two of the player 0 are worth 1 and 2, those of the other one 4 and 8; nobody has a play. */
    private static Lexirack unlike(String words) {
        return Check.dealt(() -> Check.values(kit("abcd", words.split(" ")), "abcd", 1, 2, 4, 8), 2, 'v', "ab", "cd");
    }

    /** With five turns behind it a pass ends the game, with four the other one may still play. */
    private static void sixTurnsOfAnEnd() {
        for (int turns = 0; turns <= 5; turns++) {
            int own = turns % 2 == 0 ? 12 - 3 : 3 - 12;
            Check.due("no plays, " + turns + " turns", own, passed(unlike("hh"), turns).value());
            int due = turns == 5 ? 50 + 12 + 6 : turns % 2 == 0 ? -(50 + 12 + 6) : 50 + 12 + 6;
            Check.due("cd can be played, " + turns + " turns", due, passed(unlike("cd"), turns).value());
            int first = turns == 5 ? 3 - 12 : turns % 2 == 0 ? 50 + 3 + 24 : -(50 + 3 + 24);
            Check.due("ab can be played, " + turns + " turns", first, passed(unlike("ab"), turns).value());
        }
    }

    /** 50 more for as many tiles as a full rack has, as in the game: not for a short rack. */
    private static void fiftyInAnEnd() {
        Check.due("two of two", 50 + 2, like(2, 2, 'v', "aa").value());
        Check.due("two of three", 2, like(2, 3, 'v', "aa").value());
        Check.due("three of three", 50 + 3, like(3, 3, 'v', "aaa").value());
        Check.due("three of four", 3, like(3, 4, 'v', "aaa").value());
    }

    /** "the first play of the list that has this value, or a pass if no play has it" */
    private static void passOrPlay() {
        Lexirack x = Check.values(kit("aa", "aa"), "a", 0);
        x.begin(3, 'v', 0);
        Check.due("a play that gets no more than a pass", 0, x.value());
        Check.due("is ahead of it", 0, x.solved());
        Check.due("the first of four alike", 4, x.plays());
        Check.due("no play", -1, like(2, 3, 'v').solved());
        Check.due("plays for less than a pass", -1, lessThanAPass().solved());
        Check.due("plays for less than a pass", true, lessThanAPass().plays() > 0);
    }

    /** ab would let the other one go out with abc for 12, twice a; six passes are worth 10 less 3. */
    private static Lexirack lessThanAPass() {
        return Check.dealt(() -> Check.values(kit("aabc", "ab", "abc"), "abc", 1, 1, 10), 3, 'v', "aab", "c");
    }

    /** Seven cells between walls; the player 0 has all six tiles, and lays two of them in the middle. */
    private static Lexirack oneRow() {
        Lexirack x = kit("aaaaaa", "aa", "aaa", "aaaa", "aaaaa", "aaaaaa");
        x.board(7, 3);
        for (int column = 0; column < 7; column++) {
            x.cell(column, 0, '#');
            x.cell(column, 2, '#');
        }
        x.begin(7, 'v', 0);
        Check.played(x, "aa", 3, 1, false);
        return x;
    }

    /** Four tiles on one rack and none on the other one, laid in four turns: 3, 4, 5 and 6 points. */
    private static void fourTilesOneByOne() {
        Check.due("of who has no tile", -18, oneRow().value());
        Check.due("who can but pass", -1, oneRow().solved());
        Lexirack x = passed(oneRow(), 1);
        Check.due("of who has four", 18, x.value());
        Check.due("behind two plays of four tiles, three of three, three of two", 8, x.solved());
        for (int rest = 18, points = 3; points <= 6; points++) {
            Check.due("the rest", rest, x.value());
            Check.due("one tile", points, x.playListed(x.solved()));
            rest -= points;
            Check.due("over", points == 6, x.isOver());
            if (points < 6) {
                x.pass();
            }
        }
        Check.due("it comes so", 2 + 18, x.score(0));
    }

    private static void held(String what, long upper, long lower, Lexirack x, char letter) {
        Check.due(what, upper, x.holds(letter, false));
        Check.due(what + ", the lower number", lower, x.holds(letter, true));
    }

    /** "Returns the number; 0 and 1 if it cannot be." */
    private static void holdsNoneOrAll() {
        held("no such tile", 0, 1, like(12, 3, 'v'), 'b');
        held("no blank", 0, 1, like(12, 3, 'v'), '?');
        held("no other tile", 1, 1, like(12, 3, 'v'), 'a');
        held("the other one has none", 0, 1, like(3, 3, 'v'), 'a');
        held("all are on the own rack", 0, 1, like(2, 3, 'v'), 'a');
        held("of the other one, who moves", 1, 1, passed(like(2, 3, 'v'), 1), 'a');
        held("no tiles at all", 0, 1, like(0, 3, 'v'), 'a');
        Lexirack x = Check.dealt(() -> kit("abbb"), 1, 'v', "b", "b");
        held("one of three", 1, 3, x, 'a');
        held("two of three", 2, 3, x, 'b');
        Lexirack y = Check.dealt(() -> kit("abbb"), 2, 'v', "bb", "ab");
        held("one of two, both held", 1, 1, y, 'a');
        Lexirack z = Check.dealt(() -> kit("aabbbb"), 2, 'v', "bb", "bb");
        held("two of four, two held: 5 of 6", 5, 6, z, 'a');
        held("lowest terms: 5 of 6", 5, 6, z, 'b');
        Lexirack w = Check.dealt(() -> kit("abbbbb"), 2, 'v', "bb", "bb");
        held("one of four, two held: 3 of 6", 1, 2, w, 'a');
        held("fewer others than are held", 1, 1, w, 'b');
    }

    private static void signsHeld() {
        Check.signs("holds", "abcdefgh?", () -> like(12, 3, 'v'), (x, sign) -> x.holds(sign, true));
        for (char sign : "`iAH@>".toCharArray()) {
            Looks.refused("holds " + sign, Check.ARGUMENT, () -> Check.typed(like(12, 3, 'v'), "a"), x -> x.holds(sign, false));
        }
    }

    /** "Throws IllegalStateException if there is no game", ahead of what is out of range. */
    private static void withoutAGame() {
        List<Function<Lexirack, Object>> calls = List.of(Lexirack::turns, x -> x.turnAt(0, 'p'), x -> x.turnAt(-1, 'q'),
            x -> x.sheet(0, 0), x -> x.sheet(-1, 1000), Lexirack::fault, x -> x.sheetSum(0), x -> x.sheetSum(2), Lexirack::rate,
            Lexirack::checksum, Lexirack::covered, Lexirack::meanPoints);
        Supplier<Lexirack> gone = () -> boarded(passed(like(4, 2, 'v'), 6));
        for (Function<Lexirack, Object> call : calls) {
            Looks.refused("without a game", Check.STATE, () -> Check.typed(Check.book("ab"), "ab"), call);
            Looks.refused("with another board", Check.STATE, gone, call);
        }
    }

    private static Lexirack boarded(Lexirack x) {
        x.board(4, 4);
        return x;
    }

    private static Lexirack threeTurns() {
        Lexirack x = played(like(12, 3, 'f', "aa"), "aa");
        x.pass();
        Check.typed(x, "a").exchange();
        return Check.typed(x, "a");
    }

    /** "the turn, from 0" */
    private static void turnsThatThereAre() {
        for (int turn : new int[] {-1, 3, Integer.MIN_VALUE, Integer.MAX_VALUE}) {
            Looks.refused("turn " + turn, Check.INDEX, EndEdgesTest::threeTurns, x -> x.turnAt(turn, 'p'));
            Looks.refused("turn and thing " + turn, Check.INDEX, EndEdgesTest::threeTurns, x -> x.turnAt(turn, 'q'));
            Looks.refused("sheet " + turn, Check.INDEX, EndEdgesTest::threeTurns, x -> x.sheet(turn, 5));
            Looks.refused("sheet and points " + turn, Check.INDEX, EndEdgesTest::threeTurns, x -> x.sheet(turn, 1000));
        }
        for (int turn = 0; turn < 3; turn++) {
            Check.due("player of " + turn, turn % 2, threeTurns().turnAt(turn, 'p'));
            Check.due("points of " + turn, turn == 0 ? 2 : 0, threeTurns().turnAt(turn, 's'));
            Check.due("points on the sheet of " + turn, turn == 0 ? 2 : 0, threeTurns().sheet(turn, 9));
        }
        Looks.refused("no turn at all", Check.INDEX, () -> like(12, 3, 'v'), x -> x.turnAt(0, 'p'));
        Looks.refused("no turn at all", Check.INDEX, () -> like(12, 3, 'v'), x -> x.sheet(0, 0));
        Check.due("none", 0, like(12, 3, 'v').turns());
        Check.due("three", 3, threeTurns().turns());
    }

    /** "'k' 0 a play, 1 an exchange, 2 a pass, 3 lost, 4 a play taken back" */
    private static void thingsOfATurn() {
        Check.signs("turnAt", "psk", EndEdgesTest::threeTurns, (x, sign) -> x.turnAt(2, sign));
        for (char sign : "oqrtjlPSK".toCharArray()) {
            Looks.refused("thing " + sign, Check.ARGUMENT, EndEdgesTest::threeTurns, x -> x.turnAt(2, sign));
        }
        Check.due("a play", 0, threeTurns().turnAt(0, 'k'));
        Check.due("an exchange", 1, threeTurns().turnAt(2, 'k'));
        Check.due("a pass", 2, threeTurns().turnAt(1, 'k'));
        Check.due("lost", 3, challenged(played(like(12, 3, 'd', "aa"), "aa")).turnAt(1, 'k'));
        Check.due("a play taken back", 4, challenged(played(like(12, 3, 'd'), "aa")).turnAt(0, 'k'));
    }

    /** "0 to 999" */
    private static void pointsTold() {
        for (int points : new int[] {-1, 1000, Integer.MIN_VALUE, Integer.MAX_VALUE}) {
            Looks.refused("points " + points, Check.ARGUMENT, EndEdgesTest::threeTurns, x -> x.sheet(0, points));
            Looks.refused("points " + points, Check.ARGUMENT, EndEdgesTest::threeTurns, x -> x.sheet(2, points));
        }
        Lexirack x = threeTurns();
        Check.due("those of the turn", 2, x.sheet(0, 999));
        Check.due("the greatest", 999, x.sheet(0, 0));
        Check.due("the least", 0, x.sheet(0, 1));
        Check.due("the one before", 1, x.sheet(0, 2));
        Lexirack over = passed(threeTurns(), 4);
        Check.due("over", true, over.isOver());
        Check.due("also then", 2, over.sheet(0, 999));
    }

    /** "a turn for which it tells other points": one more, one fewer, and as many. */
    private static void faults() {
        Looks.refused("no turn, no fault", Check.ELEMENT, () -> like(12, 3, 'v'), Lexirack::fault);
        Looks.refused("nothing told", Check.ELEMENT, EndEdgesTest::threeTurns, Lexirack::fault);
        for (int turn = 0; turn < 3; turn++) {
            int right = turn == 0 ? 2 : 0;
            for (int told = 0; told <= 3; told++) {
                int one = turn;
                int points = told;
                Supplier<Lexirack> maker = () -> sheeted(threeTurns(), one, points);
                if (told == right) {
                    Looks.refused("as many told", Check.ELEMENT, maker, Lexirack::fault);
                } else {
                    Check.due("other points told", turn, maker.get().fault());
                }
            }
        }
        Check.due("the first of two", 1, sheeted(sheeted(threeTurns(), 2, 7), 1, 7).fault());
        Check.due("with the first mended, the second", 2, sheeted(sheeted(sheeted(threeTurns(), 2, 7), 1, 7), 1, 0).fault());
    }

    private static Lexirack sheeted(Lexirack x, int turn, int points) {
        x.sheet(turn, points);
        return x;
    }

    private static void sheetSums() {
        for (int player : new int[] {-1, 2, Integer.MIN_VALUE, Integer.MAX_VALUE}) {
            Looks.refused("sum of " + player, Check.ARGUMENT, EndEdgesTest::threeTurns, x -> x.sheetSum(player));
        }
        Check.due("no turn", 0, like(12, 3, 'v').sheetSum(0));
        Check.due("the turn's own", 2, threeTurns().sheetSum(0));
        Check.due("the greatest", 999 + 999, sheeted(sheeted(threeTurns(), 0, 999), 2, 999).sheetSum(0));
        Check.due("the least", 0, sheeted(threeTurns(), 0, 0).sheetSum(0));
        Check.due("of the other one", 999, sheeted(threeTurns(), 1, 999).sheetSum(1));
        Check.due("without what comes of the end", 2, passed(threeTurns(), 4).sheetSum(0));
        Check.due("which is there", 2 - 3, passed(threeTurns(), 4).score(0));
    }

    private static Lexirack seated() {
        Lexirack x = passed(like(4, 2, 'v'), 6);
        x.sit(0, 4);
        x.sit(1, 2);
        return x;
    }

    /** "There are 6 persons": 0 to 5, and players 0 and 1. */
    private static void personsAndPlayers() {
        for (int person : new int[] {-1, 6, Integer.MIN_VALUE, Integer.MAX_VALUE}) {
            Looks.refused("person " + person, Check.ARGUMENT, EndEdgesTest::seated, x -> x.sit(0, person));
            Looks.refused("person " + person, Check.ARGUMENT, EndEdgesTest::seated, x -> x.sit(1, person));
            Looks.refused("rating of " + person, Check.ARGUMENT, EndEdgesTest::seated, x -> x.rating(person));
        }
        for (int player : new int[] {-1, 2, Integer.MIN_VALUE, Integer.MAX_VALUE}) {
            Looks.refused("player " + player, Check.ARGUMENT, EndEdgesTest::seated, x -> x.sit(player, 3));
            Looks.refused("player " + player, Check.ARGUMENT, EndEdgesTest::seated, x -> x.sit(player, 0));
        }
        for (int person = 0; person <= 5; person++) {
            Check.due("1000 at first", 1000, new Lexirack().rating(person));
            if (person != 2) {
                Lexirack x = seated();
                Check.due("the one before", 4, x.sit(0, person));
                Check.due("it sits", person, x.sit(0, 4));
            }
            if (person != 4) {
                Lexirack x = seated();
                Check.due("the one before", 2, x.sit(1, person));
                Check.due("it sits", person, x.sit(1, 2));
            }
        }
    }

    /** "two unlike ones sit, at first 0 and 1", "or it sits as the other one" */
    private static void sitsAsTheOtherOne() {
        Looks.refused("1 sits as the player 1", Check.ARGUMENT, Lexirack::new, x -> x.sit(0, 1));
        Looks.refused("0 sits as the player 0", Check.ARGUMENT, Lexirack::new, x -> x.sit(1, 0));
        Looks.refused("2 sits as the player 1", Check.ARGUMENT, EndEdgesTest::seated, x -> x.sit(0, 2));
        Looks.refused("4 sits as the player 0", Check.ARGUMENT, EndEdgesTest::seated, x -> x.sit(1, 4));
        Check.due("it sits there already", 0, new Lexirack().sit(0, 0));
        Check.due("it sits there already", 1, new Lexirack().sit(1, 1));
        Check.due("who left may sit as the other one", 2, left().sit(1, 4));
    }

    private static Lexirack left() {
        Lexirack x = seated();
        x.sit(0, 5);
        return x;
    }

    /** "if there is no game, it is not over, or was rated" */
    private static void ratedOnce() {
        Looks.refused("begun", Check.STATE, () -> like(4, 2, 'v'), Lexirack::rate);
        Looks.refused("five turns", Check.STATE, () -> passed(like(4, 2, 'v'), 5), Lexirack::rate);
        Check.due("six turns", 0, passed(like(4, 2, 'v'), 6).rate());
        Looks.refused("rated", Check.STATE, () -> rated(passed(like(4, 2, 'v'), 6)), Lexirack::rate);
        Check.due("over by a play", 10, played(like(4, 2, 's'), "aa").rate());
        Looks.refused("over by a play, rated", Check.STATE, () -> rated(played(like(4, 2, 's'), "aa")), Lexirack::rate);
        Looks.refused("the play is taken back", Check.STATE, () -> challenged(played(like(4, 2, 's'), "aa")), Lexirack::rate);
        Check.due("another game", 10, played(begun(rated(passed(like(4, 2, 's'), 6)), 2, 's'), "aa").rate());
    }

    private static Lexirack rated(Lexirack x) {
        x.rate();
        return x;
    }

    private static int ratedFor(int first, int second) {
        Lexirack x = Check.dealt(() -> Check.values(kit("ab"), "ab", first, second), 1, 'v', "a", "b");
        int rise = passed(x, 6).rate();
        Check.due("nothing is lost between the two", 2000, x.rating(0) + x.rating(1));
        Check.due("the first one", 1000 + rise, x.rating(0));
        return rise;
    }

    /** "the player with more gets 100, the other 0, 50 each if they have as much": a point less, as much, a point more. */
    private static void halfEach() {
        Check.due("loses 9, not 10", 10, ratedFor(9, 10));
        Check.due("loses 10, as the other one", 0, ratedFor(10, 10));
        Check.due("loses 10, not 9", -10, ratedFor(10, 9));
        Check.due("nothing", 0, ratedFor(0, 0));
    }

    /** A game of two tiles without a value; the player 0 wins it by its play, or loses it by the clock. */
    private static int game(Lexirack x, int winner) {
        x.begin(2, 'v', 0);
        if (winner == 1) {
            x.spend(0, 3600);
        }
        x.playListed(0);
        return x.rate();
    }

    private static Lexirack worthless() {
        return Check.values(kit("aa", "aa"), "a", 0);
    }

    /**
     * "due is 50 plus the difference of ratings by 8, cut". Differences that come of games of new persons: 10, -10, 20, ... ;
     * what a rating changes by is 20 times what was got less due, by 100, cut.
     */
    private static void dueByEighths() {
        int[] leads = new int[3];
        for (int first = 0; first < 12; first++) {
            Lexirack x = worthless();
            int[] ratings = {1000, 1000};
            for (int k = 0; k < 30; k++) {
                int winner = k < first ? 0 : k % 3 == first % 3 ? 0 : 1;
                int lead = ratings[0] - ratings[1];
                int rise = change(winner == 0 ? 100 : 0, due(lead));
                int other = change(winner == 1 ? 100 : 0, due(-lead));
                Check.due("with a lead of " + lead, rise, game(x, winner));
                ratings[0] += rise;
                ratings[1] += other;
                Check.due("the first one", ratings[0], x.rating(0));
                Check.due("the second one", ratings[1], x.rating(1));
                leads[lead % 8 == 0 ? 0 : lead > 0 ? 1 : 2]++;
            }
        }
        Check.due("leads that are eighths, and others of both signs", true, leads[0] > 10 && leads[1] > 10 && leads[2] > 10);
    }

    /** By a search for the cut number, not by the division that the class uses. */
    private static int due(int lead) {
        int size = Math.abs(lead);
        int eighths = 0;
        while (8 * (eighths + 1) <= size) {
            eighths++;
        }
        int due = lead < 0 ? 50 - eighths : 50 + eighths;
        return due < 5 ? 5 : due > 95 ? 95 : due;
    }

    private static int change(int got, int due) {
        int size = 20 * Math.abs(got - due);
        int hundreds = 0;
        while (100 * (hundreds + 1) <= size) {
            hundreds++;
        }
        return got < due ? -hundreds : hundreds;
    }

    /** Games that the one who is ahead wins, each held against what is due, till the lead is as told or more. */
    private static Lexirack ahead(int winner, int wanted) {
        Lexirack x = worthless();
        int[] ratings = {1000, 1000};
        for (int k = 0; k < 120 && ratings[winner] - ratings[1 - winner] < wanted; k++) {
            int lead = ratings[winner] - ratings[1 - winner];
            int[] change = new int[2];
            change[winner] = change(100, due(lead));
            change[1 - winner] = change(0, due(-lead));
            Check.due("with a lead of " + lead, change[0], game(x, winner));
            ratings[0] += change[0];
            ratings[1] += change[1];
        }
        Check.due("the first one", ratings[0], x.rating(0));
        Check.due("the second one", ratings[1], x.rating(1));
        Check.due("the lead", wanted, ratings[winner] - ratings[1 - winner]);
        return x;
    }

    /** "at least 5, at most 95": a loss costs 20 times due by 100, cut, and brings as much. */
    private static void dueAtLeastAndAtMost() {
        for (int winner = 0; winner <= 1; winner++) {
            int sign = winner == 0 ? 1 : -1;
            Check.due("94 is due: 18", -18 * sign, game(ahead(winner, 358), 1 - winner));
            Check.due("95 is due: 19", -19 * sign, game(ahead(winner, 360), 1 - winner));
            Check.due("95 is due, not 96: 1", sign, game(ahead(winner, 368), winner));
            Check.due("95 is due, not 100: 19", -19 * sign, game(ahead(winner, 400), 1 - winner));
            Check.due("95 is due, not 100: 1", sign, game(ahead(winner, 400), winner));
            Check.due("94 is due, half each: 8", -8 * sign, drawn(ahead(winner, 358)));
            Check.due("95 is due, half each: 9", -9 * sign, drawn(ahead(winner, 360)));
            Lexirack x = ahead(winner, 368);
            int behind = x.rating(1 - winner);
            game(x, winner);
            Check.due("5 is due for the other one, not 4", behind - 1, x.rating(1 - winner));
            Lexirack y = ahead(winner, 400);
            int far = y.rating(1 - winner);
            game(y, 1 - winner);
            Check.due("5 is due for the other one, not 0: 19", far + 19, y.rating(1 - winner));
        }
    }

    private static int drawn(Lexirack x) {
        x.begin(1, 'v', 0);
        return passed(x, 6).rate();
    }

    private static void bothByRatingsAsTheyWere() {
        Lexirack x = worthless();
        for (int k = 0; k < 8; k++) {
            game(x, 0);
        }
        int first = x.rating(0);
        int second = x.rating(1);
        int lead = first - second;
        Check.due("a lead", true, lead > 80);
        Check.due("who is ahead loses", change(0, due(lead)), game(x, 1));
        Check.due("by the ratings before", first + change(0, due(lead)), x.rating(0));
        Check.due("the other one gets by them, too", second + change(100, due(-lead)), x.rating(1));
        for (int person = 2; person <= 5; person++) {
            Check.due("nobody else", 1000, x.rating(person));
        }
    }

    /** "Returns 7 at first", on the least and the greatest board, with "46 for none". */
    private static void checksums() {
        for (int side : new int[] {3, 9}) {
            Lexirack x = kit("aabb");
            x.board(side, side);
            x.begin(2, 'v', 0);
            long due = 7;
            for (int cell = 0; cell < side * side; cell++) {
                due = due * 31 + 46;
            }
            Check.due("no tiles, no points", due * 31 * 31, x.checksum());
            passed(x, 6);
            Check.due("without what comes of the end", due * 31 * 31, x.checksum());
        }
        Lexirack y = kit("a?");
        y.board(3, 3);
        y.begin(2, 's', 0);
        Check.played(y, "aH", 1, 1, false);
        long due = 7;
        for (char sign : "....aH...".toCharArray()) {
            due = due * 31 + sign;
        }
        Check.due("a letter and a capital one, 51 points", (due * 31 + 51) * 31, y.checksum());
    }

    /** "the share of cells without walls", "Throws ArithmeticException if there are none" */
    private static void shareOfCells() {
        for (int walls = 0; walls <= 9; walls++) {
            int many = walls;
            if (walls == 9) {
                Looks.refused("walls alone", Check.ARITHMETIC, () -> walled(many), Lexirack::covered);
            } else {
                Check.due("nothing on " + (9 - walls), 0f, walled(walls).covered());
            }
        }
        Lexirack x = kit("aaaaaaaa", "aa");
        x.board(3, 3);
        Check.due("a wall of the board", '.', x.cell(0, 0, '#'));
        x.begin(3, 's', 0);
        Check.played(x, "aa", 1, 1, false);
        Check.due("two of eight", 0.25f, x.covered());
        x.pass();
        Check.typed(x, "aa").play(1, 0, false);
        Check.due("four of eight", 0.5f, x.covered());
        Lexirack all = kit("aaaaaaaaaaaa", "aaa");
        all.board(3, 3);
        all.begin(3, 's', 0);
        Check.played(all, "aaa", 0, 1, false);
        Check.played(all, "aaa", 0, 0, false);
        Check.due("six of nine", 6f / 9f, all.covered());
        Check.played(all, "aaa", 0, 2, false);
        Check.due("all cells", 1f, all.covered());
        Check.typed(all, "aaa").strike();
        Check.due("no word any more", true, all.challenge());
        Check.due("six again", 6f / 9f, all.covered());
    }

    private static Lexirack walled(int walls) {
        Lexirack x = kit("aabb");
        x.board(3, 3);
        for (int cell = 0; cell < walls; cell++) {
            x.cell(cell % 3, cell / 3, '#');
        }
        return Check.typed(begun(x, 2, 's'), "a");
    }

    /** "Throws ArithmeticException if there are none": plays that stand. */
    private static void meanOfPlays() {
        Looks.refused("no turn", Check.ARITHMETIC, () -> like(12, 3, 's'), Lexirack::meanPoints);
        Looks.refused("a pass", Check.ARITHMETIC, () -> passed(like(12, 3, 's'), 1), Lexirack::meanPoints);
        Looks.refused("over by six passes", Check.ARITHMETIC, () -> passed(like(12, 3, 's'), 6), Lexirack::meanPoints);
        Looks.refused("a play taken back", Check.ARITHMETIC, () -> challenged(played(like(12, 3, 's'), "aa")), Lexirack::meanPoints);
        Check.due("one play", 2.0, played(like(12, 3, 's'), "aa").meanPoints());
        Check.due("one of no points", 0.0, played(begun(Check.values(kit("aaaaa"), "a", 0), 3, 's'), "aa").meanPoints());
        Lexirack x = played(like(12, 3, 'f', "aa"), "aa");
        x.challenge();
        Check.due("without what challenges brought", 2.0, x.meanPoints());
        Check.played(x, "a", 1, 2, false);
        Check.due("of 2 and 3", 2.5, x.meanPoints());
        x.challenge();
        Check.due("of 2 alone", 2.0, x.meanPoints());
    }

    private static void soundInAllStates() {
        Check.due("without a game", true, new Lexirack().isSound());
        Check.due("with another board", true, boarded(passed(like(4, 2, 'v'), 6)).isSound());
        for (char house : "sdf".toCharArray()) {
            for (int tiles = 0; tiles <= 12; tiles++) {
                Check.due("begun", true, like(tiles, 3, house, "aa").isSound());
                if (tiles >= 2) {
                    Check.due("played", true, played(like(tiles, 3, house, "aa"), "aa").isSound());
                    Check.due("challenged", true, challenged(played(like(tiles, 3, house, "aa"), "aa")).isSound());
                    Check.due("taken back", true, challenged(played(like(tiles, 3, house), "aa")).isSound());
                }
                Check.due("over", true, passed(like(tiles, 3, house, "aa"), 6).isSound());
            }
        }
    }

    /** "An object is used for at most 512 calls after it has been made": the last one answers as well. */
    private static void lastCall() {
        Lexirack x = new Lexirack();
        int calls = 0;
        for (char kind : "abcdefgh?".toCharArray()) {
            x.letter(kind, 1, kind == 'a' ? 12 : 0);
            calls++;
        }
        x.begin(3, 'd', 0);
        calls++;
        int turns = 0;
        while (calls + 5 <= 512 - 2) {
            x.type('a');
            x.type('a');
            x.play(2, 2, turns % 2 == 0);
            Check.due("taken back", true, x.challenge());
            calls += 4;
            turns++;
            if (turns % 5 == 0) {
                x.begin(3, 'd', turns);
                calls++;
            }
        }
        while (calls < 511) {
            x.leave();
            calls++;
        }
        Check.due("the last call", true, x.isSound());
        Check.due("calls", 512, calls + 1);
    }
}
