/** Promises 39 to 43: turns that were, and the sheet. */
public final class SheetTest {
    public static void main(String[] args) {
        promise39Turns();
        promise40TurnAt();
        promise41Sheet();
        promise41SheetOfPlayTakenBack();
        promise42Fault();
        promise43SheetSum();
        Check.end("SheetTest");
    }

    private static Lexirack game(char house) {
        return Check.dealt(() -> Check.tiles(Check.book("ab"), "aaaabbbb"), 2, house, "ab", "ab");
    }

    private static void promise39Turns() {
        Lexirack x = new Lexirack();
        Check.thrown("no game", Check.STATE, x::turns);
        x.begin(2, 'v', 0);
        Check.due("none", 0, x.turns());
        for (int k = 1; k <= 6; k++) {
            x.pass();
            Check.due("a pass", k, x.turns());
        }
        x.begin(2, 'v', 0);
        Check.due("a new game", 0, x.turns());
        Lexirack d = game('d');
        Check.played(d, "ab", 2, 2, false);
        Check.due("a play", 1, d.turns());
        d.challenge();
        Check.due("a turn lost", 2, d.turns());
        Check.typed(d, Check.rack(d, 0).substring(0, 1)).exchange();
        Check.due("an exchange", 3, d.turns());
    }

    private static void promise40TurnAt() {
        Lexirack none = new Lexirack();
        Check.thrown("no game comes first", Check.STATE, () -> none.turnAt(-1, 'x'));
        Lexirack x = game('d');
        Check.played(x, "ab", 2, 2, false);
        x.challenge();
        Check.typed(x, Check.rack(x, 0).substring(0, 1)).exchange();
        x.pass();
        x.pass();
        Check.played(x, "ba", 2, 3, false);
        x.challenge();
        int[][] due = {{0, 52, 0}, {1, 0, 3}, {0, 0, 1}, {1, 0, 2}, {0, 0, 2}, {1, 0, 4}};
        for (int turn = 0; turn < due.length; turn++) {
            for (int k = 0; k < 3; k++) {
                Check.due("psk".charAt(k) + " of turn " + turn, due[turn][k], x.turnAt(turn, "psk".charAt(k)));
            }
        }
        for (int turn : new int[] {-1, 6, Integer.MAX_VALUE, Integer.MIN_VALUE}) {
            Check.thrown("no such turn", Check.INDEX, () -> x.turnAt(turn, 'p'));
            Check.thrown("no such turn comes first", Check.INDEX, () -> x.turnAt(turn, 'x'));
        }
        for (char what : "xPSKnd\u0000".toCharArray()) {
            Check.thrown("no such thing", Check.ARGUMENT, () -> x.turnAt(0, what));
        }
    }

    private static void promise41Sheet() {
        Lexirack none = new Lexirack();
        Check.thrown("no game comes first", Check.STATE, () -> none.sheet(-1, -1));
        Lexirack x = game('v');
        Check.played(x, "ab", 2, 2, false);
        x.pass();
        Check.due("not told yet: the points of the turn", 52, x.sheet(0, 999));
        Check.due("told before", 999, x.sheet(0, 0));
        Check.due("told before", 0, x.sheet(0, 52));
        Check.due("a turn without a play", 0, x.sheet(1, 7));
        Check.due("told before", 7, x.sheet(1, 0));
        for (int turn : new int[] {-1, 2, Integer.MAX_VALUE, Integer.MIN_VALUE}) {
            Check.thrown("no such turn comes first", Check.INDEX, () -> x.sheet(turn, -1));
        }
        for (int points : new int[] {-1, 1000, Integer.MAX_VALUE, Integer.MIN_VALUE}) {
            Check.thrown("out of range", Check.ARGUMENT, () -> x.sheet(0, points));
        }
        Check.due("it stays", 52, x.sheet(0, 52));
        Check.due("the turn keeps its points", 52, x.turnAt(0, 's'));
        while (!x.isOver()) {
            x.pass();
        }
        Check.due("when it is over, too", 52, x.sheet(0, 51));
        x.begin(2, 'v', 0);
        Check.thrown("not in another game", Check.INDEX, () -> x.sheet(0, 51));
        x.pass();
        Check.due("a new sheet", 0, x.sheet(0, 5));
    }

    private static void promise41SheetOfPlayTakenBack() {
        Lexirack x = game('s');
        Check.played(x, "ba", 2, 2, false);
        x.challenge();
        Check.due("not told: the points that the turn has now", 0, x.sheet(0, 0));
        Lexirack y = game('s');
        Check.played(y, "ba", 2, 2, false);
        y.sheet(0, 52);
        y.challenge();
        Check.due("a fault now", 0, y.fault());
        Check.due("what was told stays", 52, y.sheetSum(0));
        Check.due("what was told stays", 52, y.sheet(0, 0));
    }

    private static void promise42Fault() {
        Lexirack x = new Lexirack();
        Check.thrown("no game", Check.STATE, x::fault);
        x.begin(2, 'v', 0);
        Check.thrown("no turns", Check.ELEMENT, x::fault);
        x.pass();
        x.pass();
        x.pass();
        Check.thrown("nothing told", Check.ELEMENT, x::fault);
        x.sheet(1, 0);
        Check.thrown("the same points told", Check.ELEMENT, x::fault);
        x.sheet(2, 9);
        Check.due("other points", 2, x.fault());
        x.sheet(0, 1);
        Check.due("the first one", 0, x.fault());
        x.sheet(0, 0);
        Check.due("mended", 2, x.fault());
        x.sheet(2, 0);
        Check.thrown("all mended", Check.ELEMENT, x::fault);
    }

    private static void promise43SheetSum() {
        Lexirack none = new Lexirack();
        Check.thrown("no game comes first", Check.STATE, () -> none.sheetSum(5));
        Lexirack x = game('f');
        Check.due("nothing yet", 0, x.sheetSum(0));
        Check.played(x, "ab", 2, 2, false);
        x.challenge();
        Check.due("the turn, not what the challenge brought", 52, x.sheetSum(0));
        x.pass();
        x.sheet(1, 30);
        x.pass();
        x.sheet(2, 8);
        Check.due("told and untold", 60, x.sheetSum(0));
        Check.due("the other one", 30, x.sheetSum(1));
        x.sheet(0, 0);
        Check.due("told points in place of the turn's", 8, x.sheetSum(0));
        for (int player : new int[] {-1, 2, Integer.MIN_VALUE}) {
            Check.thrown("no such player", Check.ARGUMENT, () -> x.sheetSum(player));
        }
        while (!x.isOver()) {
            x.pass();
        }
        Check.due("without what comes of the end", 30, x.sheetSum(1));
    }
}
