import java.util.function.Supplier;

/**
 * Plays and their list (promises 23 to 28): each boundary that the document names, one step beyond it, and that a refused
 * call leaves all as it was.
 */
public final class PlayEdgesTest {
    private static final int[] FAR = {Integer.MIN_VALUE, Integer.MAX_VALUE};

    public static void main(String[] args) {
        cellsOfTheFirstTile();
        edges();
        walls();
        freeCells();
        tilesOfTheRack();
        blanksOfTheRack();
        rowsOfOneLetter();
        overTheStart();
        besideATile();
        emptyBoardAgain();
        refusedPlays();
        longestWord();
        unlawfulInHouseV();
        premiums();
        fullRack();
        shortRack();
        indexesOfTheList();
        placesOfTiles();
        signsOfTheList();
        emptyList();
        oneTile();
        bestOfSeveral();
        bestByWorth();
        Check.end("PlayEdgesTest");
    }

    /** A game in which all tiles are on the rack of the player 0, or those that it has no room for on the other one. */
    private static Lexirack game(String tiles, int full, char house, String... words) {
        Lexirack x = Check.tiles(Check.book(words), tiles);
        x.begin(full, house, 0);
        return x;
    }

    private static Lexirack row(Lexirack x, String signs) {
        return Check.typed(x, signs);
    }

    private static void refused(String what, Supplier<Lexirack> maker, int column, int row, boolean isDown) {
        Looks.refused(what, Check.UNSUPPORTED, maker, x -> x.play(column, row, isDown));
    }

    /** "Throws IndexOutOfBoundsException if there is no such cell" */
    private static void cellsOfTheFirstTile() {
        for (int[] each : new int[][] {{-1, 2}, {5, 2}, {2, -1}, {2, 5}, {-1, -1}, {5, 5}}) {
            for (boolean isDown : new boolean[] {false, true}) {
                Looks.refused("no cell", Check.INDEX, () -> row(game("aabb", 4, 's', "ab"), "ab"), x -> x.play(each[0], each[1], isDown));
                Looks.refused("no cell, and no play", Check.INDEX, () -> game("aabb", 4, 's', "ab"), x -> x.play(each[0], each[1], isDown));
            }
        }
        for (int far : FAR) {
            Check.thrown("far", Check.INDEX, () -> row(game("aabb", 4, 's'), "ab").play(far, 2, false));
            Check.thrown("far", Check.INDEX, () -> row(game("aabb", 4, 's'), "ab").play(2, far, true));
        }
    }

    private static Lexirack started(int column, int row, String signs) {
        Lexirack x = Check.tiles(Check.book("ab"), "aaabbb");
        x.start(column, row);
        x.begin(6, 's', 0);
        return row(x, signs);
    }

    /** "it goes over no wall and no edge": each side of the board, up to it, and beyond it. */
    private static void edges() {
        Check.due("up to the right edge", 2, started(4, 2, "ab").play(3, 2, false));
        refused("over the right edge", () -> started(4, 2, "ab"), 4, 2, false);
        refused("three, over the right edge", () -> started(4, 2, "aba"), 3, 2, false);
        Check.due("five, from the left edge to the right one", 5, started(4, 2, "ababa").play(0, 2, false));
        refused("six", () -> started(4, 2, "ababab"), 0, 2, false);
        Check.due("up to the lower edge", 2, started(2, 4, "ab").play(2, 3, true));
        refused("over the lower edge", () -> started(2, 4, "ab"), 2, 4, true);
        Check.due("five, from the upper edge to the lower one", 5, started(2, 4, "ababa").play(2, 0, true));
        refused("six", () -> started(2, 4, "ababab"), 2, 0, true);
        Check.due("in the first corner", 2, started(0, 0, "ab").play(0, 0, true));
        Check.due("in the last corner", 2, started(4, 4, "ab").play(3, 4, false));
        Lexirack x = started(4, 2, "ab");
        x.play(3, 2, false);
        x.pass();
        Check.due("no word goes on in the next row", 2, Check.played(x, "b", 4, 3, true));
        x.pass();
        refused("beyond tiles up to the edge", () -> atTheEdge("a"), 3, 2, false);
        refused("beyond tiles over the edge", () -> atTheEdge("aa"), 2, 2, false);
        Check.due("beyond tiles, ahead of them", 3, atTheEdge("a").play(2, 2, false));
    }

    private static Lexirack atTheEdge(String signs) {
        Lexirack x = started(4, 2, "ab");
        x.play(3, 2, false);
        x.pass();
        return row(x, signs);
    }

    private static Lexirack walled(int column, int row, String signs) {
        Lexirack x = Check.tiles(Check.book("ab"), "aaabbb");
        x.cell(column, row, '#');
        x.begin(6, 's', 0);
        return row(x, signs);
    }

    private static void walls() {
        Check.due("up to a wall", 2, walled(4, 2, "ab").play(2, 2, false));
        refused("on a wall", () -> walled(4, 2, "aba"), 2, 2, false);
        refused("beyond a wall", () -> walled(3, 2, "ab"), 2, 2, false);
        refused("its first tile on a wall", () -> walled(1, 2, "ab"), 1, 2, false);
        Check.due("behind a wall", 2, walled(1, 2, "ab").play(2, 2, false));
        Check.due("up to a wall below", 2, walled(2, 4, "ab").play(2, 2, true));
        refused("on a wall below", () -> walled(2, 4, "aba"), 2, 2, true);
        refused("its first tile on a wall, below", () -> walled(2, 1, "ab"), 2, 1, true);
        Check.due("behind a wall, below", 2, walled(2, 1, "ab").play(2, 2, true));
        refused("the start is a wall", () -> walled(2, 2, "ab"), 2, 2, false);
    }

    /** "lays tiles on free cells, the first one on a told cell, each next one on the next free cell" */
    private static void freeCells() {
        refused("its first cell has a tile", () -> withTwo("aa"), 2, 2, false);
        refused("its first cell has a tile, below", () -> withTwo("aa"), 3, 2, true);
        Check.due("the cell ahead of it is free", 3, withTwo("a").play(1, 2, false));
        Check.due("the cell behind it is free", 3, withTwo("a").play(4, 2, false));
        Lexirack x = withTwo("aa");
        Check.due("beyond the tiles that lie there", 4, x.play(1, 2, false));
        Check.due("the next free cell", 'a', x.tile(4, 2));
        Check.due("not one ahead", '.', x.tile(0, 2));
    }

    /** "It can be laid if its tiles are on the rack": as many, and one more. */
    private static void tilesOfTheRack() {
        Check.due("two of two", 3, row(game("aabbb", 6, 's'), "aab").play(0, 2, false));
        refused("three of two", () -> row(game("aabbb", 6, 's'), "aaab"), 0, 2, false);
        Check.due("one of one", 2, row(game("ah", 3, 's'), "ha").play(2, 2, false));
        refused("one of none", () -> row(game("ah", 3, 's'), "hg"), 2, 2, false);
        refused("of the other rack", () -> row(game("aaaa", 2, 's'), "aaa"), 1, 2, false);
        refused("eight tiles", () -> row(game("aaaaaaaaaaaa", 7, 's'), "aaaaaaaa"), 0, 2, false);
        refused("nine tiles", () -> row(game("aaaaaaaaaaaa", 7, 's'), "aaaaaaaaa"), 0, 2, false);
    }

    /** "a letter that stands for a blank being a blank of it", "there is a ? in the row" */
    private static void blanksOfTheRack() {
        Check.due("one of one", 1, row(game("aa?", 4, 's'), "aH").play(2, 2, false));
        refused("two of one", () -> row(game("aa?", 4, 's'), "AH"), 2, 2, false);
        Check.due("two of two", 0, row(game("a??", 4, 's'), "AA").play(2, 2, false));
        refused("a letter that is none of the blanks", () -> row(game("a??", 4, 's'), "bA"), 2, 2, false);
        refused("a blank for a letter of the rack", () -> row(game("ab", 4, 's'), "aB"), 2, 2, false);
        refused("a ? for a blank", () -> row(game("a??", 4, 's'), "a?"), 2, 2, false);
        refused("a ? ahead", () -> row(game("a??", 4, 's'), "?a"), 2, 2, false);
        refused("a ? alone", () -> row(game("a??", 4, 's'), "?"), 2, 2, false);
    }

    /** "Its words are the rows of two or more letters" */
    private static void rowsOfOneLetter() {
        refused("a tile alone", () -> row(game("aab", 4, 's'), "a"), 2, 2, false);
        refused("a tile alone, below", () -> row(game("aab", 4, 's'), "a"), 2, 2, true);
        refused("no tile", () -> row(game("aab", 4, 's'), ""), 2, 2, true);
        Check.due("two tiles", 2, row(game("aab", 4, 's'), "aa").play(2, 2, true));
        Check.due("a tile with a word below, told as to the right", 2, withTwo("a").play(2, 3, false));
        Check.due("a tile with a word to the right, told as below", 3, withTwo("a").play(1, 2, true));
    }

    /** "if, on an empty board, it covers the start" */
    private static void overTheStart() {
        Check.due("its first tile", 2, row(game("aabb", 4, 's'), "ab").play(2, 2, false));
        Check.due("its last tile", 2, row(game("aabb", 4, 's'), "ab").play(1, 2, false));
        refused("ahead of it", () -> row(game("aabb", 4, 's'), "ab"), 0, 2, false);
        refused("behind it", () -> row(game("aabb", 4, 's'), "ab"), 3, 2, false);
        refused("above it", () -> row(game("aabb", 4, 's'), "ab"), 2, 1, false);
        refused("under it", () -> row(game("aabb", 4, 's'), "ab"), 2, 3, false);
        Check.due("its first tile, below", 2, row(game("aabb", 4, 's'), "ab").play(2, 2, true));
        Check.due("its last tile, below", 2, row(game("aabb", 4, 's'), "ab").play(2, 1, true));
        refused("ahead of it, below", () -> row(game("aabb", 4, 's'), "ab"), 2, 0, true);
        refused("behind it, below", () -> row(game("aabb", 4, 's'), "ab"), 2, 3, true);
        refused("to the left of it", () -> row(game("aabb", 4, 's'), "ab"), 1, 2, true);
        refused("to the right of it", () -> row(game("aabb", 4, 's'), "ab"), 3, 2, true);
    }

    private static Lexirack withTwo(String signs) {
        Lexirack x = game("aaaaaaaa", 3, 's', "aa");
        Check.played(x, "aa", 2, 2, false);
        return row(x, signs);
    }

    /** "else one of its tiles is beside a tile that lay there" */
    private static void besideATile() {
        Check.due("ahead", 3, withTwo("a").play(1, 2, false));
        Check.due("behind", 3, withTwo("a").play(4, 2, false));
        Check.due("above", 2, withTwo("a").play(2, 1, false));
        Check.due("under", 2, withTwo("a").play(3, 3, true));
        refused("aslant, the first corner", () -> withTwo("aa"), 0, 1, false);
        refused("aslant, the second corner", () -> withTwo("aa"), 4, 0, true);
        refused("aslant, the third corner", () -> withTwo("aa"), 0, 3, false);
        refused("aslant, the last corner", () -> withTwo("aa"), 4, 3, true);
        refused("a cell apart", () -> withTwo("a"), 0, 2, false);
        refused("a row apart", () -> withTwo("aa"), 2, 4, false);
        refused("two rows above", () -> withTwo("aa"), 2, 0, false);
        Check.due("its last tile beside, above", 3, withTwo("aa").play(2, 0, true));
        Check.due("its first tile beside, under", 3, withTwo("aa").play(2, 3, true));
        Check.due("its last tile beside, to the right", 2 + 2, withTwo("aa").play(1, 1, false));
        refused("beside nothing, no more than the board is empty", PlayEdgesTest::apart, 0, 0, false);
    }

    private static Lexirack apart() {
        Lexirack x = withTwo("aa");
        x.challenge();
        return x;
    }

    /** With the only play taken back, the board is empty again. */
    private static void emptyBoardAgain() {
        refused("beside what lay there", PlayEdgesTest::takenBack, 2, 3, false);
        Check.due("over the start", 2, takenBack().play(2, 2, false));
        Check.due("over the start, its last tile", 2, takenBack().play(2, 1, true));
    }

    private static Lexirack takenBack() {
        Lexirack x = game("aaaaaaaa", 3, 's', "ab");
        Check.played(x, "aa", 2, 2, false);
        x.challenge();
        return row(x, "aa");
    }

    /** "Throws IllegalStateException if no game goes on", ahead of all else. */
    private static void refusedPlays() {
        Supplier<Lexirack> none = () -> row(Check.book("ab"), "ab");
        Supplier<Lexirack> over = () -> row(passed(game("aabb", 4, 's', "ab"), 6), "ab");
        for (Supplier<Lexirack> maker : java.util.List.of(none, over)) {
            Looks.refused("play", Check.STATE, maker, x -> x.play(2, 2, false));
            Looks.refused("play on no cell", Check.STATE, maker, x -> x.play(-1, 5, false));
            Looks.refused("plays", Check.STATE, maker, Lexirack::plays);
            Looks.refused("playAt", Check.STATE, maker, x -> x.playAt(0, 'x'));
            Looks.refused("playAt of none", Check.STATE, maker, x -> x.playAt(-1, 'q'));
            Looks.refused("playTile", Check.STATE, maker, x -> x.playTile(0, 0));
            Looks.refused("playTile of none", Check.STATE, maker, x -> x.playTile(-1, -1));
            Looks.refused("bestByLeave", Check.STATE, maker, Lexirack::bestByLeave);
            Looks.refused("playListed", Check.STATE, maker, x -> x.playListed(0));
            Looks.refused("playListed of none", Check.STATE, maker, x -> x.playListed(-1));
        }
        Check.due("behind five passes it goes on", 52, row(passed(game("aaaa", 2, 's', "aa"), 5), "aa").play(2, 2, false));
    }

    private static Lexirack passed(Lexirack x, int turns) {
        for (int k = 0; k < turns; k++) {
            x.pass();
        }
        return x;
    }

    /** No word has eight letters, though all its letters make words. */
    private static void longestWord() {
        for (int more = 0; more <= 3; more++) {
            Lexirack x = Check.tiles(Check.book("aa", "aaa", "aaaa", "aaaaa", "aaaaaa", "aaaaaaa"), "aaaaaaaaaaaa");
            x.board(9, 3);
            x.begin(7, 's', 0);
            Check.played(x, "aaaaaa", 0, 1, false);
            int most = 0;
            for (int index = 0; index < x.plays(); index++) {
                most = Math.max(most, x.playAt(index, 'y') == 1 && x.playAt(index, 'd') == 0 ? x.playAt(index, 'n') : 0);
            }
            Check.due("the list has seven letters in the row, not eight", 1, most);
            if (more > 0) {
                Check.due("letters", 6 + more, Check.played(x, "aaa".substring(0, more), 6, 1, false));
                Check.due("of " + (6 + more) + " letters", more > 1, x.challenge());
            }
        }
    }

    /** "or, in the house v, it is not lawful" */
    private static void unlawfulInHouseV() {
        refused("no word", () -> row(game("aabb", 4, 'v', "ab"), "ba"), 2, 2, false);
        refused("a word and more", () -> row(game("aabb", 4, 'v', "ab"), "abb"), 2, 2, false);
        refused("a word without its end", () -> row(game("aabb", 4, 'v', "abb"), "ab"), 2, 2, false);
        refused("without a book", () -> row(game("aabb", 4, 'v'), "ab"), 2, 2, false);
        Check.due("a word", 2, row(game("aabb", 5, 'v', "ab"), "ab").play(2, 2, false));
        for (char house : "sdf".toCharArray()) {
            Check.due("no word in another house", 2, row(game("aabb", 5, house, "ab"), "ba").play(2, 2, false));
        }
        refused("a word along, none across", () -> row(passed(withWord('v'), 1), "ab"), 2, 3, false);
        Check.due("a word across, told along, where it has none", 2, row(passed(withWord('v'), 1), "b").play(2, 3, false));
        Check.due("a word across, as it is told below", 2, row(passed(withWord('v'), 1), "b").play(2, 3, true));
        refused("none across", () -> row(passed(withWord('v'), 1), "a"), 2, 3, false);
    }

    private static Lexirack withWord(char house) {
        Lexirack x = game("aaabbb", 6, house, "ab");
        Check.played(x, "ab", 2, 2, false);
        return x;
    }

    private static int scored(String kinds, String signs) {
        Lexirack x = Check.values(Check.tiles(Check.book("ab"), "aab?"), "ab", 3, 10);
        for (int k = 0; k < kinds.length(); k++) {
            x.cell(2 + k, 2, kinds.charAt(k));
        }
        x.begin(5, 's', 0);
        return row(x, signs).play(2, 2, false);
    }

    /** "those on d and t cells twice or thrice, times 2 for each D and 3 for each T" */
    private static void premiums() {
        Check.due("plain", 13, scored("..", "ab"));
        Check.due("d", 6 + 10, scored("d.", "ab"));
        Check.due("t", 3 + 30, scored(".t", "ab"));
        Check.due("d and t", 6 + 30, scored("dt", "ab"));
        Check.due("D", 26, scored("D.", "ab"));
        Check.due("T", 39, scored(".T", "ab"));
        Check.due("D and D", 52, scored("DD", "ab"));
        Check.due("T and T", 117, scored("TT", "ab"));
        Check.due("D and T", 78, scored("DT", "ab"));
        Check.due("d and T", (6 + 10) * 3, scored("dT", "ab"));
        Check.due("a blank on t", 3, scored(".t", "aB"));
        Check.due("a blank on T", 9, scored(".T", "aB"));
        Check.due("a premium beside it", 13, scored("..T", "ab"));
        Check.due("a premium under its third tile", (3 + 10 + 3) * 3, scored("..T", "aba"));
        Lexirack x = Check.tiles(Check.book("aa", "aaa"), "aaaaaaaa");
        x.cell(2, 2, 'T');
        x.cell(2, 1, 'D');
        x.begin(3, 'v', 0);
        Check.due("for tiles of the play", 6, Check.played(x, "aa", 2, 2, false));
        Check.due("not for a tile that lay there, behind it", 3, Check.played(x, "a", 4, 2, false));
        Check.due("not for a tile that lay there, across it", 2 * 2, Check.played(x, "a", 2, 1, true));
        Check.due("not for a tile that lay there, below", 3, Check.played(x, "a", 2, 0, true));
        Lexirack y = Check.tiles(Check.book("aa"), "aaaaaaaa");
        y.cell(3, 3, 'D');
        y.begin(3, 'v', 0);
        Check.played(y, "aa", 2, 2, false);
        Check.played(y, "a", 2, 3, true);
        Check.due("for both words of a tile", 4 + 4, Check.played(y, "a", 3, 3, true));
    }

    /** "and 50 more if it lays as many tiles as a full rack has" */
    private static void fullRack() {
        for (int full = 1; full <= 7; full++) {
            for (int tiles = 2; tiles <= full; tiles++) {
                Lexirack x = Check.tiles(new Lexirack(), "aaaaaaaaaaaa");
                x.board(9, 9);
                x.start(4, 0);
                x.begin(full, 's', 0);
                int due = tiles + (tiles == full ? 50 : 0);
                Check.due(tiles + " of " + full, due, row(x, "aaaaaaa".substring(0, tiles)).play(4, 0, true));
            }
        }
        Lexirack one = game("aaaaaaaaaaaa", 1, 'v', "aa", "aaa");
        Check.due("a full rack of one makes no first word", 0, one.plays());
        Check.thrown("a full rack of one makes no first word", Check.UNSUPPORTED, () -> Check.played(one, "a", 2, 2, false));
    }

    /** A rack that is not full: all its tiles are not as many as a full one has. */
    private static void shortRack() {
        Check.due("two of three, all there are", 2, row(game("aa", 3, 's'), "aa").play(2, 2, false));
        Check.due("three of three, all there are", 53, row(game("aaa", 3, 's'), "aaa").play(1, 2, false));
        Lexirack x = game("aaaaaaa", 4, 's', "aa");
        x.pass();
        Check.due("three of four, all that the second rack has", 3, Check.played(x, "aaa", 1, 2, false));
        Check.due("it has no tile then", true, x.isOver());
    }

    private static Lexirack listed() {
        return row(game("aabb", 4, 's', "ab", "aab", "bb"), "ab");
    }

    /** "the index, from 0" */
    private static void indexesOfTheList() {
        int plays = listed().plays();
        Check.due("some plays", true, plays > 2);
        for (int index : new int[] {-1, plays, Integer.MIN_VALUE, Integer.MAX_VALUE}) {
            Looks.refused("playListed " + index, Check.ELEMENT, PlayEdgesTest::listed, x -> x.playListed(index));
            Looks.refused("playAt " + index, Check.ELEMENT, PlayEdgesTest::listed, x -> x.playAt(index, 's'));
            Looks.refused("playAt of no thing " + index, Check.ELEMENT, PlayEdgesTest::listed, x -> x.playAt(index, 'q'));
            Looks.refused("playTile " + index, Check.ELEMENT, PlayEdgesTest::listed, x -> x.playTile(index, 0));
        }
        for (int index : new int[] {0, plays - 1}) {
            int score = listed().playAt(index, 's');
            Check.due("the score of " + index, score, listed().playListed(index));
            Check.due("the first tile of " + index, listed().playTile(index, 0), tileBehind(index));
        }
    }

    private static char tileBehind(int index) {
        Lexirack x = listed();
        int column = x.playAt(index, 'x');
        int row = x.playAt(index, 'y');
        x.playListed(index);
        return x.tile(column, row);
    }

    /** "the place of the tile, from 0" */
    private static void placesOfTiles() {
        Lexirack x = listed();
        for (int index = 0; index < x.plays(); index += x.plays() - 1) {
            int one = index;
            int tiles = x.playAt(index, 'n');
            Check.due("the last place", true, "ab".indexOf(x.playTile(index, tiles - 1)) >= 0);
            for (int place : new int[] {-1, tiles, Integer.MIN_VALUE, Integer.MAX_VALUE}) {
                Looks.refused("place " + place, Check.ELEMENT, PlayEdgesTest::listed, each -> each.playTile(one, place));
            }
        }
        Lexirack y = Check.tiles(Check.book("aaaaaaa"), "aaaaaaa");
        y.board(9, 9);
        y.begin(7, 'v', 0);
        Check.due("the seventh place", 'a', y.playTile(0, 6));
        Check.thrown("the eighth place", Check.ELEMENT, () -> y.playTile(0, 7));
    }

    private static void signsOfTheList() {
        Check.signs("playAt", "xydsnw", PlayEdgesTest::listed, (x, sign) -> x.playAt(0, sign));
        for (char sign : "vtcermozuXYDSNW".toCharArray()) {
            Looks.refused("no thing " + sign, Check.ARGUMENT, PlayEdgesTest::listed, x -> x.playAt(0, sign));
        }
    }

    /** "Throws NoSuchElementException if the list is empty" */
    private static void emptyList() {
        Supplier<Lexirack> maker = () -> row(game("aabb", 2, 's', "hh"), "ab");
        Check.due("no plays", 0, maker.get().plays());
        Looks.refused("bestByLeave", Check.ELEMENT, maker, Lexirack::bestByLeave);
        Looks.refused("playListed", Check.ELEMENT, maker, x -> x.playListed(0));
        Looks.refused("playAt", Check.ELEMENT, maker, x -> x.playAt(0, 'x'));
        Looks.refused("playTile", Check.ELEMENT, maker, x -> x.playTile(0, 0));
    }

    /** "Of one tile it is to the right, if it has a word so, else below." */
    private static void oneTile() {
        Lexirack x = game("aaaaaaaa", 3, 'v', "aa", "aaa");
        Check.played(x, "aa", 2, 2, false);
        x.pass();
        for (int index = 0; index < x.plays(); index++) {
            if (x.playAt(index, 'n') == 1) {
                Check.due("to the right in the row of tiles, else below", x.playAt(index, 'y') == 2 ? 0 : 1, x.playAt(index, 'd'));
            }
        }
        Check.played(x, "a", 2, 3, true);
        int both = 0;
        for (int index = 0; index < x.plays(); index++) {
            if (x.playAt(index, 'n') == 1 && x.playAt(index, 'x') == 3 && x.playAt(index, 'y') == 3) {
                both++;
                Check.due("a word each way: to the right", 0, x.playAt(index, 'd'));
                Check.due("two words", 2, x.playAt(index, 'w'));
            }
        }
        Check.due("listed once", 1, both);
    }

    /** "of several the first" */
    private static void bestOfSeveral() {
        Lexirack x = game("aaaa", 2, 'v', "aa");
        Check.due("four plays alike", 4, x.plays());
        Check.due("the first", 0, x.bestByLeave());
        Check.due("of one play", 0, atACorner().bestByLeave());
        Check.due("one play", 1, atACorner().plays());
    }

    private static Lexirack atACorner() {
        Lexirack x = Check.tiles(Check.book("aa"), "aa");
        x.start(4, 4);
        x.cell(4, 3, '#');
        x.begin(2, 'v', 0);
        return x;
    }

    /** ab for 2 leaves bb, worth -11 and twice the weight of b; bb for 2 leaves ab, worth that weight. */
    private static void bestByWorth() {
        for (int weight : new int[] {0, 10, 11, 12, 20}) {
            Lexirack x = game("abbb", 4, 'v', "ab", "bb");
            x.weight('b', weight);
            Check.due("the first of the list is ab", "ab", Check.tilesOf(x, 0));
            String due = weight <= 10 ? "bb" : "ab";
            Check.due("with " + weight, due, Check.tilesOf(x, x.bestByLeave()));
        }
    }
}
