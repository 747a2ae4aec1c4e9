/** Promise 29: challenges, by houses. */
public final class HouseTest {
    public static void main(String[] args) {
        promise29WrongCalls();
        promise29TakenBack();
        promise29TilesDrawnAreInTheBag();
        promise29SeedStays();
        promise29LawfulInHouseS();
        promise29LawfulInHouseD();
        promise29LawfulInHouseF();
        promise29OverByThePlay();
        promise29LawfulAndOver();
        promise29TurnWithoutPlay();
        promise29EditionAsItIsThen();
        promise29AcrossCounts();
        promise29EachWordCounts();
        promise29WholeWords();
        promise29LongRows();
        promise29StartBehindTheEnd();
        Check.end("HouseTest");
    }

    private static Lexirack tiles() {
        return Check.tiles(Check.book("ab"), "aaabbb");
    }

    private static void promise29WrongCalls() {
        Lexirack none = new Lexirack();
        Check.thrown("no game", Check.STATE, none::challenge);
        Lexirack v = Check.dealt(HouseTest::tiles, 2, 'v', "ab", "ab");
        Check.thrown("no turn", Check.UNSUPPORTED, v::challenge);
        Check.played(v, "ab", 2, 2, false);
        Check.thrown("the house v", Check.UNSUPPORTED, v::challenge);
        Lexirack x = Check.dealt(HouseTest::tiles, 2, 's', "ab", "ab");
        Check.thrown("no turn", Check.UNSUPPORTED, x::challenge);
        x.pass();
        Check.thrown("a pass", Check.UNSUPPORTED, x::challenge);
        Check.typed(x, "a").exchange();
        Check.thrown("an exchange", Check.UNSUPPORTED, x::challenge);
        Lexirack y = Check.dealt(HouseTest::tiles, 2, 's', "ab", "ab");
        Check.played(y, "ab", 2, 2, false);
        y.pass();
        Check.thrown("not the last turn", Check.UNSUPPORTED, y::challenge);
    }

    private static void promise29TakenBack() {
        for (char house : "sdf".toCharArray()) {
            Lexirack x = Check.dealt(HouseTest::tiles, 2, house, "ab", "ab");
            x.pass();
            x.pass();
            Check.due("a phony", 52, Check.played(x, "ba", 2, 2, false));
            Check.due("is taken back", true, x.challenge());
            Check.due("its tiles are on the rack", "ab", Check.rack(x, 0));
            Check.due("what was drawn is in the bag", 2, x.bag());
            Check.due("nothing lies there", "..", "" + x.tile(2, 2) + x.tile(3, 2));
            Check.due("it scores nothing", 0, x.score(0));
            Check.due("who challenged scores nothing", 0, x.score(1));
            Check.due("who challenged moves", 1, x.mover());
            Check.due("three turns", 3, x.turns());
            Check.due("a play taken back", 4, x.turnAt(2, 'k'));
            Check.due("without points", 0, x.turnAt(2, 's'));
            Check.thrown("once", Check.UNSUPPORTED, x::challenge);
            Check.due("a turn without a play", 4, x.pass());
            Check.due("sound", true, x.isSound());
        }
    }

    private static void promise29TilesDrawnAreInTheBag() {
        for (int seed = 0; seed < 30; seed++) {
            Lexirack x = Check.tiles(Check.book("aa"), "aabbcc??");
            x.begin(3, 's', seed);
            String before = Check.rack(x, 0);
            Check.played(x, before.replace('?', 'H').substring(0, 2), 2, 2, true);
            Check.due("drawn", 0, x.bag());
            boolean isBack = x.challenge();
            Check.due("aa alone is lawful", before.startsWith("aa"), !isBack);
            if (isBack) {
                Check.due("the rack is as it was", before, Check.rack(x, 0));
                Check.due("the bag is as it was", 2, x.bag());
            }
            Check.due("sound", true, x.isSound());
        }
    }

    private static void promise29SeedStays() {
        boolean isSame = true;
        for (int seed = 0; seed < 40; seed++) {
            Lexirack x = Check.tiles(Check.book("aa"), "bbbbcdefgh");
            x.begin(2, 's', seed);
            long z = seed & 0xffffffffL;
            for (int k = 0; k < 6; k++) {
                z = (z * 1103515245L + 12345L) & 0xffffffffL;
            }
            String second = Check.rack(x, 1);
            Check.played(x, Check.rack(x, 0), 2, 2, false);
            x.challenge();
            StringBuilder bag = new StringBuilder("bbbbcdefgh");
            for (char each : (Check.rack(x, 0) + second).toCharArray()) {
                bag.deleteCharAt(bag.indexOf(String.valueOf(each)));
            }
            z = (z * 1103515245L + 12345L) & 0xffffffffL;
            char due = bag.charAt((int) ((z / 65536) % 6));
            Check.typed(x, second.substring(0, 1)).exchange();
            isSame &= Check.rack(x, 1).replaceFirst(second.substring(1), "").equals("" + due);
        }
        Check.due("the seventh number tells the next tile", true, isSame);
    }

    private static void promise29LawfulInHouseS() {
        Lexirack x = Check.dealt(HouseTest::tiles, 2, 's', "ab", "ab");
        Check.played(x, "ab", 2, 2, false);
        Check.due("not taken back", false, x.challenge());
        Check.due("nothing more comes of it", 52, x.score(0));
        Check.due("the turn is not lost", 1, x.mover());
        Check.due("one turn", 1, x.turns());
        Check.thrown("once", Check.UNSUPPORTED, x::challenge);
        Check.due("the play counts", 1, x.pass());
    }

    private static void promise29LawfulInHouseD() {
        Lexirack x = Check.dealt(HouseTest::tiles, 2, 'd', "ab", "ab");
        Check.played(x, "ab", 2, 2, false);
        Check.due("not taken back", false, x.challenge());
        Check.due("the turn is lost", 0, x.mover());
        Check.due("a turn", 2, x.turns());
        Check.due("of who challenged", 1, x.turnAt(1, 'p'));
        Check.due("lost", 3, x.turnAt(1, 'k'));
        Check.due("without points", 0, x.turnAt(1, 's'));
        Check.thrown("the last turn is no play", Check.UNSUPPORTED, x::challenge);
        Check.due("points stay", 52, x.score(0));
        Check.due("a turn without a play", 2, x.pass());
    }

    private static void promise29LawfulInHouseF() {
        Lexirack x = Check.dealt(HouseTest::tiles, 2, 'f', "ab", "ab");
        Check.played(x, "ab", 2, 2, false);
        Check.due("not taken back", false, x.challenge());
        Check.due("the other player gets 5", 57, x.score(0));
        Check.due("the turn keeps its points", 52, x.turnAt(0, 's'));
        Check.due("the turn is not lost", 1, x.mover());
        Check.thrown("once", Check.UNSUPPORTED, x::challenge);
        Check.due("sound", true, x.isSound());
    }

    private static void promise29OverByThePlay() {
        for (char house : "sdf".toCharArray()) {
            Lexirack x = Check.dealt(() -> Check.tiles(Check.book("ab"), "abb"), 2, house, "ab", "b");
            Check.played(x, "ba", 2, 2, false);
            Check.due("over", true, x.isOver());
            Check.due("with the end", 54, x.score(0));
            Check.due("taken back", true, x.challenge());
            Check.due("it goes on", false, x.isOver());
            Check.due("without points", 0, x.score(0));
            Check.due("who challenged moves", 1, x.mover());
            Check.due("its tiles are on the rack", "ab", Check.rack(x, 0));
            Check.due("a turn without a play", 2, x.pass());
        }
    }

    private static void promise29LawfulAndOver() {
        for (char house : "sdf".toCharArray()) {
            Lexirack x = Check.dealt(() -> Check.tiles(Check.book("ab"), "abb"), 2, house, "ab", "b");
            Check.played(x, "ab", 2, 2, false);
            Check.due("lawful", false, x.challenge());
            Check.due("still over", true, x.isOver());
            Check.due("no turn is lost", 1, x.turns());
            Check.due("5 more in the house f", house == 'f' ? 59 : 54, x.score(0));
            Check.thrown("once", Check.UNSUPPORTED, x::challenge);
        }
    }

    private static void promise29TurnWithoutPlay() {
        Lexirack x = Check.dealt(HouseTest::tiles, 2, 's', "ab", "ab");
        for (int k = 0; k < 5; k++) {
            x.pass();
        }
        Check.played(x, "ba", 2, 2, false);
        Check.due("a play ends the row of turns", false, x.isOver());
        x.challenge();
        Check.due("taken back, it does not", true, x.isOver());
        Check.thrown("the game is over", Check.STATE, x::pass);
        Check.due("each loses the own rack", -2, x.score(1));
    }

    private static void promise29EditionAsItIsThen() {
        Lexirack x = Check.dealt(HouseTest::tiles, 2, 's', "ab", "ab");
        Check.played(x, "ab", 2, 2, false);
        Check.typed(x, "ab").word(3, 4);
        Check.due("not in the edition as it is now", true, x.challenge());
        Lexirack y = Check.dealt(HouseTest::tiles, 2, 's', "ab", "ab");
        Check.played(y, "ba", 2, 2, false);
        Check.typed(y, "ba").word(5, 5);
        y.edition(5);
        Check.due("in the edition as it is now", false, y.challenge());
    }

    private static void promise29AcrossCounts() {
        Lexirack x = Check.dealt(HouseTest::tiles, 2, 's', "ab", "ab");
        Check.played(x, "ab", 2, 2, false);
        Check.due("ab along, and aa and bb across", 52 + 4, Check.played(x, "ab", 2, 3, false));
        Check.due("across they are no words", true, x.challenge());
        Check.due("what lay there stays", 'a', x.tile(2, 2));
        Check.due("what was laid is gone", '.', x.tile(2, 3));
        Check.due("the first one scored", 52, x.score(0));
    }

    private static boolean isTakenBack(String words, String tiles, int column, int row, boolean isDown) {
        Lexirack x = Check.dealt(() -> Check.tiles(Check.book(words.split(" ")), "abcdaabb"), 4, 's', "aabb", "abcd");
        Check.played(x, "ab", 2, 2, isDown);
        Check.played(x, tiles, column, row, isDown);
        return x.challenge();
    }

    /** cd lies beside ab, and each of its words may be the only one that is none. */
    private static void promise29EachWordCounts() {
        for (boolean isDown : new boolean[] {false, true}) {
            int column = isDown ? 3 : 2;
            int row = isDown ? 2 : 3;
            Check.due("all are words", false, isTakenBack("cd ac bd", "cd", column, row, isDown));
            Check.due("not along", true, isTakenBack("dc ac bd", "cd", column, row, isDown));
            Check.due("not across the first tile", true, isTakenBack("cd bd", "cd", column, row, isDown));
            Check.due("not across the second tile", true, isTakenBack("cd ac", "cd", column, row, isDown));
        }
    }

    /** What is a word from the second letter on, or up to the last but one, is none. */
    private static void promise29WholeWords() {
        for (String word : new String[] {"bb", "ab", "abba", "babb", "b"}) {
            Lexirack x = Check.dealt(() -> Check.tiles(new Lexirack(), "aabbab"), 4, 's', "aabb", "ab");
            Check.played(x, "abb", 1, 2, false);
            Check.withWords(x, word.length() < 2 ? "ba" : word);
            Check.due("abb is no word, " + word + " is", true, x.challenge());
        }
        Lexirack y = Check.dealt(() -> Check.tiles(new Lexirack(), "aabbab"), 4, 's', "aabb", "ab");
        Check.played(y, "abb", 1, 2, false);
        Check.withWords(y, "abb");
        Check.due("abb is one", false, y.challenge());
    }

    /** No word has more than seven letters, whatever it begins or ends with. */
    private static void promise29LongRows() {
        Lexirack x = Check.tiles(Check.book("aaaaaaa", "aaaaaa"), "aaaaaaaaaaaa");
        x.board(9, 9);
        x.begin(7, 's', 0);
        Check.played(x, "aaaaaa", 1, 4, false);
        Check.played(x, "aaa", 0, 4, false);
        Check.due("nine letters", true, x.challenge());
        x.pass();
        Check.due("seven letters", 7, Check.played(x, "a", 0, 4, false));
        Check.due("a word", false, x.challenge());
    }

    /** The game keeps values, counts and cells; of the start nothing is said, so it is the one told last. */
    private static void promise29StartBehindTheEnd() {
        Lexirack x = Check.dealt(() -> Check.tiles(Check.book("ab"), "aabb"), 2, 's', "ab", "ab");
        Check.played(x, "ba", 2, 2, false);
        x.start(0, 0);
        x.challenge();
        Check.due("the start as it is told", 0, x.playAt(0, 'x') + x.playAt(0, 'y'));
    }
}
