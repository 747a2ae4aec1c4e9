import java.util.ArrayList;
import java.util.List;
import java.util.Random;

/**
 * Whole lists of random positions, long ones and phonies on the board among them, held against Naive play by play. What led
 * to a position is made again on a new object for every few plays, so that each object stays within its calls.
 */
public final class WholeListTest {
    private static final int POSITIONS = 150;
    private static final int PLAYS_AN_OBJECT = 14;
    private static final int MOST_PLAYS = 1500;

    private final Random random;
    private final Naive due = new Naive();
    private final Subject plain = new Subject(due);
    private final List<Object[]> made = new ArrayList<>();
    private int letters;
    private int columns;
    private int rows;

    private WholeListTest(long seed) {
        random = new Random(seed);
    }

    public static void main(String[] args) {
        int longest = 0;
        int phonies = 0;
        for (long seed = 1; seed <= POSITIONS; seed++) {
            WholeListTest position = new WholeListTest(seed);
            position.makeKit();
            phonies += position.makeGame();
            longest = Math.max(longest, position.compare("position " + seed));
        }
        Check.due("lists of more than 300 plays are among them, the longest of " + longest, true, longest > 300);
        Check.due("positions with phonies on the board are among them: " + phonies, true, phonies > 5);
        Check.end("WholeListTest");
    }

    private int below(int bound) {
        return random.nextInt(bound);
    }

    private Object make(String name, Object... given) {
        Object[] call = new Object[given.length + 1];
        call[0] = name;
        System.arraycopy(given, 0, call, 1, given.length);
        made.add(call);
        return plain.call(name, given);
    }

    private Lexirack madeAgain() {
        Lexirack x = new Lexirack();
        Subject subject = new Subject(x);
        for (Object[] call : made) {
            Object[] given = new Object[call.length - 1];
            System.arraycopy(call, 1, given, 0, given.length);
            subject.call((String) call[0], given);
        }
        return x;
    }

    private void makeKit() {
        letters = 1 + below(3);
        columns = 3 + below(7);
        rows = 3 + below(7);
        make("board", columns, rows);
        for (int words = 5 + below(35); words > 0; words--) {
            for (int size = below(4) == 0 ? 2 + below(6) : 2 + below(2); size > 0; size--) {
                make("type", (char) ('a' + below(letters)));
            }
            make("word", below(5) == 0 ? 1 : 0, 9);
        }
        for (char letter = 'a'; letter <= 'h'; letter++) {
            make("letter", letter, below(11), letter < 'a' + letters ? 2 + below(9) : 0);
        }
        make("letter", '?', 0, below(4));
        for (int cells = below(12); cells > 0; cells--) {
            make("cell", below(columns), below(rows), "ddttDDTT#".charAt(below(9)));
        }
    }

    /** Some turns by the list, or by tiles laid where they can be; 1 if there is a phony among them. */
    private int makeGame() {
        int phonies = 0;
        make("edition", below(2));
        char house = "vsdf".charAt(below(4));
        make("begin", 2 + below(6), house, random.nextInt());
        for (int turns = below(9); turns > 0 && !due.isOver(); turns--) {
            int plays = due.plays();
            if (below(3) == 0 && layAnywhere()) {
                phonies = house != 'v' && madeAgain().challenge() ? 1 : phonies;
            } else if (!due.isOver() && plays > 0) {
                make("playListed", below(due.plays()));
            } else if (!due.isOver()) {
                make("pass");
            }
        }
        return phonies;
    }

    private boolean layAnywhere() {
        String rack = due.tilesOf(due.mover());
        for (int k = 0; k < rack.length() && k < 1 + below(2); k++) {
            char kind = rack.charAt(k);
            make("type", kind == '?' ? (char) ('A' + below(letters)) : kind);
        }
        for (int tries = 0; tries < 40; tries++) {
            int column = below(columns);
            int row = below(rows);
            boolean isDown = below(2) == 0;
            if (isPlayed(column, row, isDown)) {
                made.add(new Object[] {"play", column, row, isDown});
                return true;
            }
        }
        make("wipe");
        return false;
    }

    private boolean isPlayed(int column, int row, boolean isDown) {
        try {
            due.play(column, row, isDown);
            return true;
        } catch (UnsupportedOperationException refused) {
            return false;
        }
    }

    /** How many plays the list has. */
    private int compare(String what) {
        Lexirack first = madeAgain();
        Check.due(what + " is over", due.isOver(), first.isOver());
        if (due.isOver()) {
            return 0;
        }
        int plays = due.plays();
        Check.due(what + " has plays", plays, first.plays());
        if (plays > 0) {
            Check.due(what + " by leave", due.bestByLeave(), first.bestByLeave());
        }
        Check.due(what + " is sound", true, first.isSound());
        Lexirack x = first;
        for (int index = 0; index < plays && index < MOST_PLAYS; index++) {
            if (index % PLAYS_AN_OBJECT == 0) {
                x = madeAgain();
            }
            Check.due(what + ", play " + index, told(index), told(x, index));
        }
        return plays;
    }

    private String told(int index) {
        StringBuilder text = new StringBuilder();
        for (char what : "xydsw".toCharArray()) {
            text.append(what).append(due.playAt(index, what)).append(' ');
        }
        for (int place = 0; place < due.playAt(index, 'n'); place++) {
            text.append(due.playTile(index, place));
        }
        return text.toString();
    }

    private static String told(Lexirack x, int index) {
        StringBuilder text = new StringBuilder();
        for (char what : "xydsw".toCharArray()) {
            text.append(what).append(x.playAt(index, what)).append(' ');
        }
        int tiles = x.playAt(index, 'n');
        for (int place = 0; place < tiles; place++) {
            text.append(x.playTile(index, place));
        }
        return text.toString();
    }
}
