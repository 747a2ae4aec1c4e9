import java.util.ArrayList;
import java.util.List;
import java.util.function.Function;
import java.util.function.Supplier;

/**
 * All that can be asked of an object, and what comes of it when it is used on, in parts that each leave room in its 512
 * calls. Parts change the object, so each needs one of its own.
 */
final class Looks {
    static final int PARTS = 10;
    private static final String KINDS = "abcdefgh?";
    private static final int FAR = 30;

    private final Subject x;
    private final List<Object> seen = new ArrayList<>();

    private Looks(Subject x) {
        this.x = x;
    }

    /** A refused call is made on one of two objects made alike; then all that can be seen of both must be the same. */
    static void refused(String what, Class<? extends RuntimeException> want, Supplier<Lexirack> maker,
        Function<Lexirack, Object> call) {
        for (int part = 0; part < PARTS; part++) {
            Lexirack called = maker.get();
            Check.thrown(what, want, () -> call.apply(called));
            Check.due(what + " left all as it was, part " + part, part(part, maker.get()), part(part, called));
        }
    }

    private static List<Object> part(int part, Lexirack x) {
        return part(part, new Subject(x));
    }

    static List<Object> part(int part, Subject x) {
        Looks looks = new Looks(x);
        switch (part) {
            case 0 -> looks.atRow();
            case 1 -> looks.atRowAsWord();
            case 2 -> looks.atRowAsStruck();
            case 3 -> looks.atEditions();
            case 4 -> looks.atGame();
            case 5 -> looks.atList();
            case 6 -> looks.atRowPlayed();
            case 7 -> looks.atRowExchanged();
            case 8 -> looks.atTurnsToCome();
            default -> looks.atKit();
        }
        return looks.seen;
    }

    private Object see(String name, Object... given) {
        Object answer = x.call(name, given);
        seen.add(name + " " + answer);
        return answer;
    }

    private void atRow() {
        see("isWord");
        see("hooks", true);
        see("hooks", false);
        see("anagrams", true);
        see("anagrams", false);
        see("leave");
        for (char kind : KINDS.toCharArray()) {
            see("weight", kind, 20);
            see("leave");
        }
        see("type", 'a');
        see("isWord");
        see("wipe");
    }

    private void atRowAsWord() {
        see("word", 0, 9);
        see("wipe");
        see("words");
        see("nodes");
    }

    private void atRowAsStruck() {
        see("strike");
        see("wipe");
        see("words");
        see("nodes");
    }

    private void atEditions() {
        see("words");
        for (int edition = 0; edition < 10; edition++) {
            see("edition", edition);
            see("words");
            see("nodes");
            see("isWord");
            see("anagrams", false);
        }
    }

    private void atGame() {
        for (int cell = 0; cell < 81; cell++) {
            see("tile", cell % 9, cell / 9);
        }
        for (int player = 0; player < 2; player++) {
            for (char kind : KINDS.toCharArray()) {
                see("rack", player, kind);
            }
            see("score", player);
            see("sheetSum", player);
            see("spend", player, 0);
        }
        for (String name : "bag mover isOver checksum covered meanPoints isSound fault".split(" ")) {
            see(name);
        }
        int turns = x.number("turns");
        for (int turn = 0; turn < turns && turn < FAR; turn++) {
            see("turnAt", turn, 'p');
            see("turnAt", turn, 's');
            see("turnAt", turn, 'k');
            see("sheet", turn, 0);
        }
    }

    private void atList() {
        int plays = Subject.numberOf(see("plays"));
        for (int index = 0; index < plays && index < 12; index++) {
            seeListed(plays <= 12 ? index : index * (plays - 1) / 11);
        }
        see("bestByLeave");
        see("value");
        see("solved");
        for (char kind : KINDS.toCharArray()) {
            see("holds", kind, false);
            see("holds", kind, true);
        }
    }

    private void seeListed(int index) {
        for (char what : "xydsw".toCharArray()) {
            see("playAt", index, what);
        }
        int tiles = Subject.numberOf(see("playAt", index, 'n'));
        for (int place = 0; place < tiles; place++) {
            see("playTile", index, place);
        }
    }

    private void atRowPlayed() {
        for (int cell = 0; cell < 81 && x.number("isOver") == 0; cell++) {
            if (!(see("play", cell % 9, cell / 9, cell % 2 == 0) instanceof String)) {
                break;
            }
        }
        see("checksum");
        see("bag");
        see("wipe");
    }

    private void atRowExchanged() {
        see("exchange");
        see("wipe");
        see("turns");
        for (char kind : KINDS.toCharArray()) {
            see("rack", 0, kind);
            see("rack", 1, kind);
        }
    }

    /** The game goes on: a challenge, plays, exchanges, which tell what is drawn, passes, the end, and ratings. */
    private void atTurnsToCome() {
        see("challenge");
        for (int turn = 0; turn < 12; turn++) {
            if (see("playListed", 0) instanceof String) {
                exchangeOne();
                see("pass");
            }
            see("checksum");
            see("score", 0);
            see("score", 1);
        }
        endGame();
        see("challenge");
        see("isOver");
        see("rate");
        for (int person = 0; person < 6; person++) {
            see("rating", person);
        }
    }

    private void exchangeOne() {
        x.call("wipe");
        int mover = Subject.numberOf(see("mover"));
        for (char kind : KINDS.toCharArray()) {
            if (x.number("rack", mover, kind) > 0) {
                x.call("type", kind);
                see("exchange");
                return;
            }
        }
    }

    private void endGame() {
        for (int turn = 0; turn < 6; turn++) {
            see("pass");
        }
        see("score", 0);
        see("score", 1);
    }

    private void atKit() {
        endGame();
        for (char kind : KINDS.toCharArray()) {
            see("letter", kind, 0, 0);
            see("weight", kind, 0);
        }
        for (int cell = 0; cell < 81; cell++) {
            see("cell", cell % 9, cell / 9, '.');
        }
        see("start", 0, 0);
        see("time", 0);
        see("score", 0);
        see("score", 1);
        see("sit", 0, 0);
        see("sit", 1, 1);
        see("sit", 1, 2);
    }
}
