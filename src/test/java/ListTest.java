import java.util.HashSet;
import java.util.List;

/** Promises 23 to 26: the list of plays. */
public final class ListTest {
    public static void main(String[] args) {
        promise23Plays();
        promise23FirstPlay();
        promise23Joined();
        promise23Across();
        promise23Walls();
        promise23FollowsTheBook();
        promise23FollowsTheGame();
        promise23PlayTakenBack();
        promise23FirstLook();
        promise23Many();
        promise24PlayAt();
        promise24Order();
        promise24OrderOfTiles();
        promise24OneTile();
        promise24OneTileBothWays();
        promise24Scores();
        promise24PremiumsOnce();
        promise24FullRack();
        promise24GreatestScore();
        promise25PlayTile();
        promise26BestByLeave();
        Check.end("ListTest");
    }

    private static void holds(List<String> list, String play, boolean isDue) {
        Check.due("the list has " + play, isDue, list.contains(play));
    }

    private static void hasNone(List<String> list, String start) {
        for (String play : list) {
            Check.due("the list has no " + start, false, play.startsWith(start));
        }
    }

    private static void promise23Plays() {
        Lexirack x = new Lexirack();
        Check.thrown("no game", Check.STATE, x::plays);
        x.begin(7, 'v', 0);
        Check.due("no words, no plays", 0, x.plays());
        for (int k = 0; k < 6; k++) {
            x.pass();
        }
        Check.thrown("the game is over", Check.STATE, x::plays);
    }

    private static void promise23FirstPlay() {
        Lexirack x = Check.tiles(Check.book("aa"), "aaaa");
        x.begin(2, 'v', 0);
        Check.due("over the start, by rows, by columns, to the right ahead of below",
            List.of("2 1 below aa 52", "1 2 right aa 52", "2 2 right aa 52", "2 2 below aa 52"), Check.list(x));
        Lexirack y = Check.tiles(Check.book("aa"), "aaaa");
        y.start(0, 0);
        y.begin(2, 'v', 0);
        Check.due("in a corner", List.of("0 0 right aa 52", "0 0 below aa 52"), Check.list(y));
        Lexirack z = Check.tiles(Check.book("aa"), "aaaa");
        z.cell(2, 2, '#');
        z.begin(2, 'v', 0);
        Check.due("none over a wall", 0, z.plays());
        Lexirack one = Check.tiles(Check.book("aa"), "aaaa");
        one.begin(1, 'v', 0);
        Check.due("a tile alone is no word", 0, one.plays());
    }

    private static void promise23Joined() {
        Lexirack x = Check.dealt(() -> Check.tiles(Check.book("aa", "aab", "ba"), "aaabbb"), 2, 'v', "aa", "ab");
        Check.played(x, "aa", 1, 2, false);
        List<String> list = Check.list(x);
        holds(list, "3 2 right b 3", true);
        holds(list, "1 1 below b 2", true);
        holds(list, "2 3 below a 2", true);
        holds(list, "3 2 below ba 55", true);
        hasNone(list, "0 2 right b");
        hasNone(list, "3 4 right ba");
        hasNone(list, "3 3 right ba");
        hasNone(list, "4 2 ");
    }

    private static void promise23Across() {
        Lexirack x = Check.dealt(() -> Check.tiles(Check.book("aa", "aba"), "aaaaabbb"), 3, 'v', "aab", "aaa");
        Check.played(x, "aba", 1, 2, false);
        List<String> list = Check.list(x);
        holds(list, "0 3 right aa 4", true);
        holds(list, "0 1 right aa 4", true);
        holds(list, "1 3 below a 2", true);
        holds(list, "3 1 below a 2", true);
        hasNone(list, "1 3 right aa");
        hasNone(list, "2 3 ");
        hasNone(list, "4 2 ");
    }

    private static void promise23Walls() {
        Lexirack x = Check.tiles(Check.book("aa", "aaa"), "aaaaaa");
        x.cell(1, 2, '#');
        x.cell(4, 2, '#');
        x.cell(2, 1, '#');
        x.cell(2, 4, '#');
        x.begin(3, 'v', 0);
        Check.due("between walls", List.of("2 2 right aa 2", "2 2 below aa 2"), Check.list(x));
    }

    private static void promise23FollowsTheBook() {
        Lexirack x = Check.tiles(Check.book("aa"), "aaaaaa");
        x.begin(2, 's', 0);
        Check.due("a word", 4, x.plays());
        Check.typed(x, "aa").word(1, 9);
        Check.due("not of this edition", 0, x.plays());
        x.edition(1);
        Check.due("of the next one", 4, x.plays());
        Check.typed(x, "aa").strike();
        Check.due("struck", 0, x.plays());
        Check.typed(x, "aa").word(0, 9);
        Check.due("a word again", 4, x.plays());
        Check.played(x, "aa", 2, 2, false);
        Check.due("behind a play", false, Check.list(x).contains("2 2 right aa 52"));
        x.pass();
        x.pass();
        x.pass();
        Check.typed(x, "aa").strike();
        Check.due("nothing is lawful any more", 0, x.plays());
    }

    /** Each call that changes what is lawful is followed by a look at the list. */
    private static void promise23FollowsTheGame() {
        Lexirack x = Check.dealt(() -> Check.tiles(Check.book("aa", "bb", "ab"), "aabbcccc"), 2, 's', "aa", "bb");
        Check.due("of the first rack", "2 1 below aa 52", Check.told(x, 0));
        x.pass();
        Check.due("of the second rack", "2 1 below bb 52", Check.told(x, 0));
        Check.typed(x, "bb").exchange();
        Check.due("of the first rack again", "2 1 below aa 52", Check.told(x, 0));
        Check.played(x, "aa", 2, 2, false);
        Check.due("the second rack has cc", 0, x.plays());
        Check.due("lawful", false, x.challenge());
        Check.due("the list stays", 0, x.plays());
        x.pass();
        int before = x.plays();
        Check.played(x, Check.rack(x, 0).substring(0, 1), 1, 2, false);
        x.plays();
        Check.due("a phony", true, x.challenge());
        x.pass();
        Check.due("the list as before it", before, x.plays());
        x.begin(2, 'v', 3);
        String rack = Check.rack(x, 0);
        boolean hasWord = rack.contains("a") && rack.matches("[ab]+") || rack.equals("bb");
        Check.due("of another game", hasWord, x.plays() > 0);
    }

    private static void promise23PlayTakenBack() {
        Lexirack x = Check.dealt(() -> Check.tiles(Check.book("ab"), "aabbb"), 2, 's', "ab", "ab");
        Check.played(x, "ba", 2, 2, false);
        Check.due("beside a phony", false, Check.list(x).contains("1 2 right ab 52"));
        x.challenge();
        Check.due("on an empty board again", true, Check.list(x).contains("1 2 right ab 52"));
    }

    /** The first look at the list may be each call that needs it. */
    private static void promise23FirstLook() {
        Check.due("playAt", 52, ready().playAt(0, 's'));
        Check.due("playTile", 'a', ready().playTile(0, 0));
        Check.due("bestByLeave", 0, ready().bestByLeave());
        Check.due("playListed", 52, ready().playListed(0));
        Check.due("solved", true, ready().isSound());
    }

    private static Lexirack ready() {
        Lexirack x = Check.tiles(Check.book("aa"), "aaaaa");
        x.begin(2, 'v', 0);
        return x;
    }

    private static void promise23Many() {
        Lexirack x = Check.tiles(new Lexirack(), "????????????");
        for (int k = 0; k < 64; k++) {
            Check.typed(x, "" + (char) ('a' + k / 8) + (char) ('a' + k % 8)).word(0, 9);
        }
        x.begin(2, 'v', 0);
        Check.due("64 words in four places", 256, x.plays());
        Check.due("the first one", "2 1 below AA 50", Check.told(x, 0));
        Check.due("the last one", "2 2 below HH 50", Check.told(x, 255));
        Check.due("the last one of the first place", "2 1 below HH 50", Check.told(x, 63));
    }

    private static void promise24PlayAt() {
        Lexirack none = new Lexirack();
        Check.thrown("no game comes first", Check.STATE, () -> none.playAt(-1, 'q'));
        Lexirack x = Check.tiles(Check.book("aaa"), "aaaaaaaaa");
        x.board(9, 9);
        x.begin(3, 'v', 0);
        Check.due("column", 4, x.playAt(0, 'x'));
        Check.due("row", 2, x.playAt(0, 'y'));
        Check.due("below", 1, x.playAt(0, 'd'));
        Check.due("score", 53, x.playAt(0, 's'));
        Check.due("tiles", 3, x.playAt(0, 'n'));
        Check.due("words", 1, x.playAt(0, 'w'));
        Check.due("to the right", 0, x.playAt(2, 'd'));
        Check.due("six plays", 6, x.plays());
        for (int index : new int[] {-1, 6, Integer.MAX_VALUE, Integer.MIN_VALUE}) {
            Check.thrown("no such play", Check.ELEMENT, () -> x.playAt(index, 'x'));
            Check.thrown("no such play comes first", Check.ELEMENT, () -> x.playAt(index, 'q'));
        }
        for (char what : "aXYDSNWpk\u0000".toCharArray()) {
            Check.thrown("no such thing", Check.ARGUMENT, () -> x.playAt(0, what));
        }
        Check.played(x, "aaa", 4, 4, false);
        Check.typed(x, "aa").word(0, 9);
        int most = 0;
        for (int index = 0; index < x.plays(); index++) {
            most = Math.max(most, x.playAt(index, 'w'));
        }
        Check.due("a word along and three across", 4, most);
        while (!x.isOver()) {
            x.pass();
        }
        Check.thrown("the game is over", Check.STATE, () -> x.playAt(0, 'x'));
    }

    private static Lexirack mixed() {
        Lexirack x = Check.tiles(Check.book("aa", "ab", "ba", "aab", "bb"), "aaabbb??");
        Check.values(x, "ab", 3, 5);
        x.cell(1, 2, 't');
        x.cell(2, 3, 'D');
        x.begin(4, 'v', 11);
        return x;
    }

    private static void promise24Order() {
        int plays = mixed().plays();
        Check.due("many plays", true, plays > 20);
        for (int from = 1; from < plays; from += 10) {
            Lexirack x = mixed();
            for (int index = from; index < plays && index < from + 10; index++) {
                Check.due("in order at " + index, true, compare(x, index - 1, index) < 0);
            }
        }
    }

    private static int compare(Lexirack x, int one, int other) {
        if (x.playAt(one, 's') != x.playAt(other, 's')) {
            return x.playAt(other, 's') - x.playAt(one, 's');
        }
        for (char what : "yxd".toCharArray()) {
            if (x.playAt(one, what) != x.playAt(other, what)) {
                return x.playAt(one, what) - x.playAt(other, what);
            }
        }
        String order = "abcdefghABCDEFGH";
        String first = Check.tilesOf(x, one);
        String second = Check.tilesOf(x, other);
        for (int k = 0; k < first.length() && k < second.length(); k++) {
            if (first.charAt(k) != second.charAt(k)) {
                return order.indexOf(first.charAt(k)) - order.indexOf(second.charAt(k));
            }
        }
        return first.length() - second.length();
    }

    private static void promise24OrderOfTiles() {
        Lexirack x = Check.values(Check.tiles(Check.book("aa", "aaa", "ab", "ba"), "aab?"), "ab", 0, 0);
        x.begin(4, 'v', 0);
        StringBuilder told = new StringBuilder();
        for (int index = 0; index < x.plays(); index++) {
            if (x.playAt(index, 'x') == 2 && x.playAt(index, 'y') == 2 && x.playAt(index, 'd') == 0) {
                told.append(Check.tilesOf(x, index)).append(' ');
            }
        }
        String due = "aa aaA ab aA aAa aB ba bA Aa Aaa Ab Ba ";
        Check.due("a to h ahead of A to H, a beginning ahead of what it begins", due, told.toString());
    }

    private static void promise24OneTile() {
        Lexirack x = Check.tiles(Check.book("aa", "aaa"), "aaaaaa");
        x.begin(2, 's', 0);
        Check.played(x, "aa", 2, 2, false);
        List<String> list = Check.list(x);
        holds(list, "1 2 right a 3", true);
        hasNone(list, "1 2 below a 3");
        holds(list, "2 1 below a 2", true);
        hasNone(list, "2 1 right a 2");
        holds(list, "2 3 below a 2", true);
    }

    private static void promise24OneTileBothWays() {
        Lexirack x = Check.dealt(() -> Check.tiles(Check.book("aa", "ab"), "aaabb"), 2, 's', "aa", "ab");
        Check.played(x, "aa", 2, 2, false);
        Check.played(x, "a", 2, 3, true);
        List<String> list = Check.list(x);
        holds(list, "3 3 right b 4", true);
        hasNone(list, "3 3 below");
        Check.due("nothing twice", list.size(), new HashSet<>(list).size());
        Lexirack y = Check.dealt(() -> Check.tiles(Check.book("aa", "ba", "bb", "ab"), "aabbb"), 2, 's', "aa", "bb");
        Check.played(y, "aa", 1, 2, false);
        Check.played(y, "b", 2, 3, false);
        List<String> other = Check.list(y);
        holds(other, "1 3 right b 4", true);
        hasNone(other, "1 3 below b");
        Check.due("nothing twice", other.size(), new HashSet<>(other).size());
    }

    private static void promise24Scores() {
        Lexirack x = Check.values(Check.tiles(Check.book("ab", "abab"), "abababa"), "ab", 3, 7);
        x.cell(1, 2, 'd');
        x.cell(2, 2, 'D');
        x.cell(3, 2, 't');
        x.cell(4, 2, 'T');
        x.begin(6, 'v', 2);
        List<String> list = Check.list(x);
        holds(list, "1 2 right ab 26", true);
        holds(list, "1 2 right abab 174", true);
        holds(list, "0 2 right abab " + (3 + 14 + 3 + 21) * 2, true);
        holds(list, "2 2 below ab 20", true);
        holds(list, "2 1 below ab 20", true);
    }

    private static void promise24PremiumsOnce() {
        Lexirack x = Check.dealt(() -> Check.values(Check.tiles(premiums(), "aabbbb"), "ab", 3, 7), 2, 'v', "ab", "bb");
        Check.due("premiums of tiles of the play", (3 + 14) * 3 + 50, Check.played(x, "ab", 2, 2, false));
        List<String> list = Check.list(x);
        holds(list, "4 2 right b 17", true);
        holds(list, "3 3 below b 14", true);
        holds(list, "4 2 below bb " + (17 + 14 + 50), true);
    }

    private static Lexirack premiums() {
        Lexirack x = Check.book("ab", "bb", "abb");
        x.cell(2, 2, 'T');
        x.cell(3, 2, 'd');
        return x;
    }

    /** 70 for seven letters, thrice for each of seven cells, and a full rack. */
    private static void promise24GreatestScore() {
        Lexirack x = Check.values(Check.tiles(Check.book("aaaaaaa"), "aaaaaaaaaaaa"), "a", 10);
        x.board(9, 9);
        for (int cell = 0; cell < 81; cell++) {
            x.cell(cell % 9, cell / 9, 'T');
        }
        x.begin(7, 'v', 0);
        Check.due("3 to the power of 7, 70 times, and 50", 2187 * 70 + 50, x.playAt(0, 's'));
        Check.due("as played", 2187 * 70 + 50, x.playListed(0));
    }

    private static void promise24FullRack() {
        Lexirack x = Check.tiles(Check.book("aa", "aaaaaaa"), "aaaaaaaa");
        x.board(9, 9);
        x.begin(7, 'v', 0);
        Check.due("all seven tiles", "aaaaaaa", Check.tilesOf(x, 0));
        Check.due("50 more", 57, x.playAt(0, 's'));
        Check.due("not for two of seven", 2, x.playAt(x.plays() - 1, 's'));
    }

    private static void promise25PlayTile() {
        Lexirack none = new Lexirack();
        Check.thrown("no game comes first", Check.STATE, () -> none.playTile(-1, -1));
        Lexirack x = Check.dealt(() -> Check.tiles(Check.book("cab"), "abca?c"), 3, 'v', "ab?", "acc");
        Check.due("three places to the right, three below", 6, x.plays());
        Check.due("a capital letter for a blank", 'C', x.playTile(0, 0));
        Check.due("a letter", 'a', x.playTile(0, 1));
        Check.due("the last one", 'b', x.playTile(0, 2));
        for (int place : new int[] {-1, 3, 7, Integer.MAX_VALUE, Integer.MIN_VALUE}) {
            Check.thrown("no such tile", Check.ELEMENT, () -> x.playTile(0, place));
        }
        for (int index : new int[] {-1, 6, Integer.MAX_VALUE, Integer.MIN_VALUE}) {
            Check.thrown("no such play", Check.ELEMENT, () -> x.playTile(index, 0));
        }
        for (int k = 0; k < 6; k++) {
            x.pass();
        }
        Check.thrown("the game is over", Check.STATE, () -> x.playTile(0, 0));
    }

    private static void promise26BestByLeave() {
        Lexirack none = new Lexirack();
        Check.thrown("no game", Check.STATE, none::bestByLeave);
        none.begin(2, 'v', 0);
        Check.thrown("an empty list", Check.ELEMENT, none::bestByLeave);
        Lexirack x = Check.dealt(() -> Check.values(Check.tiles(Check.book("ab", "aa"), "aab?aab?"), "ab", 1, 2), 4, 'v',
            "aab?", "aab?");
        Check.due("ab is first by its score", "2 1 below ab 3", Check.told(x, 0));
        Check.due("ab would leave a?, aA leaves ab", "2 1 below aA 1", Check.told(x, x.bestByLeave()));
        x.weight('?', 20);
        x.weight('a', -20);
        Check.due("aa leaves b?", "2 1 below aa 2", Check.told(x, x.bestByLeave()));
        x.weight('a', 20);
        x.weight('?', 20);
        Check.due("ab leaves a?", 0, x.bestByLeave());
        x.weight('a', 0);
        x.weight('b', 20);
        x.weight('?', -20);
        Check.due("aA leaves ab", "2 1 below aA 1", Check.told(x, x.bestByLeave()));
    }
}
