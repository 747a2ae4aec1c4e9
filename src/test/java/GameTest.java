import java.util.ArrayList;
import java.util.List;

/** Promises 18 to 22: a game begun, its board, racks and bag, and who moves. */
public final class GameTest {
    public static void main(String[] args) {
        promise18Begin();
        promise18Draws();
        promise18InPlaceOfOneBefore();
        promise19Tile();
        promise20Rack();
        promise21Bag();
        promise22Mover();
        Check.end("GameTest");
    }

    private static void promise18Begin() {
        Lexirack x = new Lexirack();
        for (int full = 1; full <= 7; full++) {
            for (char house : "vsdf".toCharArray()) {
                Check.due("tiles in the bag", 34 - 2 * full, x.begin(full, house, -full));
            }
        }
        for (int full : new int[] {0, 8, -1, Integer.MIN_VALUE, Integer.MAX_VALUE}) {
            Check.thrown("no such rack", Check.ARGUMENT, () -> x.begin(full, 'v', 0));
        }
        for (char house : "VSDFaw.\u0000".toCharArray()) {
            Check.thrown("no such house", Check.ARGUMENT, () -> x.begin(3, house, 0));
        }
        Check.due("the game stays", 20, x.bag());
        Check.tiles(over(x), "aab");
        Check.due("fewer tiles than two racks", 0, x.begin(2, 'v', 0));
        Check.due("the first rack is full", 2, Check.rack(x, 0).length());
        Check.due("the second one is not", 1, Check.rack(x, 1).length());
        Check.tiles(over(x), "");
        Check.due("no tiles", 0, x.begin(7, 'v', 0));
        Check.due("it goes on all the same", 0, x.mover());
        Check.due("as long as others", 1, x.pass());
    }

    private static Lexirack over(Lexirack x) {
        while (!x.isOver()) {
            x.pass();
        }
        return x;
    }

    /** z, the places it tells, and the order a to h, then blanks, are done here once more by long numbers. */
    private static void promise18Draws() {
        for (int seed : new int[] {0, 1, -1, 12345, Integer.MAX_VALUE, Integer.MIN_VALUE, 987654321, -77}) {
            for (int full = 1; full <= 7; full += 2) {
                Lexirack x = Check.tiles(new Lexirack(), "aabbbcddeffffgh???");
                List<Character> bag = new ArrayList<>();
                for (char each : "aabbbcddeffffgh???".toCharArray()) {
                    bag.add(each);
                }
                x.begin(full, 's', seed);
                long z = seed & 0xffffffffL;
                String[] racks = {"", ""};
                for (int k = 0; k < 2 * full; k++) {
                    z = (z * 1103515245L + 12345L) & 0xffffffffL;
                    racks[k / full] += bag.remove((int) ((z / 65536) % bag.size()));
                }
                Check.due("the rack of 0", sorted(racks[0]), Check.rack(x, 0));
                Check.due("the rack of 1", sorted(racks[1]), Check.rack(x, 1));
                Check.due("what is left", 18 - 2 * full, x.bag());
            }
        }
    }

    private static String sorted(String tiles) {
        StringBuilder sorted = new StringBuilder();
        for (char kind : "abcdefgh?".toCharArray()) {
            for (char tile : tiles.toCharArray()) {
                if (tile == kind) {
                    sorted.append(kind);
                }
            }
        }
        return sorted.toString();
    }

    private static void promise18InPlaceOfOneBefore() {
        Lexirack x = Check.tiles(Check.book("aa"), "aaaaaaaa");
        x.begin(2, 's', 0);
        Check.due("a play", 52, Check.played(x, "aa", 2, 2, false));
        x.spend(0, 900);
        x.sheet(0, 1);
        Check.due("another game while one goes on", 4, x.begin(2, 'v', 0));
        Check.due("an empty board", '.', x.tile(2, 2));
        Check.due("no turns", 0, x.turns());
        Check.due("no points", 0, x.score(0));
        Check.due("the player 0 moves", 0, x.mover());
        Check.due("no time spent", 0, x.spend(0, 0));
        Check.due("all tiles", true, x.isSound());
        Check.thrown("no play to challenge", Check.UNSUPPORTED, x::challenge);
        Check.played(x, "aa", 2, 2, false);
        Check.due("a new sheet", 52, x.sheet(0, 0));
        x.begin(2, 'f', 0);
        Check.played(x, "aa", 2, 2, false);
        x.challenge();
        Check.due("5 more", 57, x.score(0));
        x.begin(2, 'f', 0);
        Check.due("not in another game", 0, x.score(0));
        Check.due("all points", true, x.isSound());
    }

    private static void promise19Tile() {
        Lexirack x = Check.tiles(Check.book("ab"), "ab??");
        Check.due("none without a game", '.', x.tile(0, 0));
        for (int[] cell : new int[][] {{-1, 0}, {0, -1}, {5, 0}, {0, 5}, {Integer.MAX_VALUE, 1}, {1, Integer.MIN_VALUE}}) {
            Check.thrown("no such cell, without a game", Check.INDEX, () -> x.tile(cell[0], cell[1]));
        }
        Lexirack y = Check.dealt(() -> Check.tiles(Check.book("ab"), "abb?"), 2, 's', "a?", "bb");
        Check.played(y, "aB", 2, 1, true);
        Check.due("a letter", 'a', y.tile(2, 1));
        Check.due("a blank", 'B', y.tile(2, 2));
        Check.due("none", '.', y.tile(1, 2));
        Check.due("none", '.', y.tile(2, 3));
        Check.thrown("no such cell, in a game", Check.INDEX, () -> y.tile(2, 5));
        y.challenge();
        Check.due("the game is as it was", 'B', y.tile(2, 2));
        Lexirack h = Check.tiles(Check.book("hh"), "h?");
        h.begin(2, 'v', 0);
        Check.played(h, "hH", 2, 2, false);
        Check.due("the last letter", 'h', h.tile(2, 2));
        Check.due("the last letter as a blank", 'H', h.tile(3, 2));
        Lexirack z = Check.tiles(Check.book("ab"), "ab");
        z.begin(2, 'v', 0);
        Check.played(z, "ab", 1, 2, false);
        Check.due("when the game is over, too", 'a', z.tile(1, 2));
        z.board(3, 3);
        Check.due("not on another board", '.', z.tile(1, 2));
    }

    private static void promise20Rack() {
        Lexirack x = Check.tiles(new Lexirack(), "aaaa??");
        Check.thrown("no game", Check.STATE, () -> x.rack(0, 'a'));
        Check.thrown("no game comes first", Check.STATE, () -> x.rack(2, 'x'));
        x.begin(3, 'v', 4);
        Check.due("all tiles are on racks", 4, x.rack(0, 'a') + x.rack(1, 'a'));
        Check.due("all blanks are on racks", 2, x.rack(0, '?') + x.rack(1, '?'));
        Check.due("three on a rack", 3, x.rack(0, 'a') + x.rack(0, '?'));
        Check.due("none of another letter", 0, x.rack(0, 'h'));
        for (int player : new int[] {-1, 2, Integer.MAX_VALUE, Integer.MIN_VALUE}) {
            Check.thrown("no such player", Check.ARGUMENT, () -> x.rack(player, 'a'));
        }
        for (char letter : "iAH@`!".toCharArray()) {
            Check.thrown("no such letter", Check.ARGUMENT, () -> x.rack(0, letter));
        }
        over(x);
        Check.due("when it is over, too", 6, (Check.rack(x, 0) + Check.rack(x, 1)).length());
    }

    private static void promise21Bag() {
        Lexirack x = Check.tiles(Check.book("aa"), "aaaaaaaaa");
        Check.thrown("no game", Check.STATE, x::bag);
        x.begin(2, 'v', 0);
        Check.due("two racks fewer", 5, x.bag());
        Check.played(x, "aa", 2, 2, false);
        Check.due("two drawn", 3, x.bag());
        Check.typed(x, "aa").exchange();
        Check.due("as many as before", 3, x.bag());
        over(x);
        Check.due("when it is over, too", 3, x.bag());
        x.board(3, 3);
        Check.thrown("no game any more", Check.STATE, x::bag);
    }

    private static void promise22Mover() {
        Lexirack x = new Lexirack();
        Check.thrown("no game", Check.STATE, x::mover);
        x.begin(2, 'v', 0);
        for (int turn = 0; turn < 6; turn++) {
            Check.due("turn by turn", turn % 2, x.mover());
            x.pass();
        }
        Check.thrown("the game is over", Check.STATE, x::mover);
    }
}
