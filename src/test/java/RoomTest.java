import java.lang.management.ManagementFactory;

/** What an object and its calls take of the room that all calls share: rows are made once, in constructors. */
public final class RoomTest {
    private static final long MOST_FOR_AN_OBJECT = 200_000;
    private static final long MOST_FOR_CALLS = 200_000;

    public static void main(String[] args) {
        run();
        long before = taken();
        Lexirack x = new Lexirack();
        long made = taken() - before;
        Check.due("an object takes " + made + " bytes", true, made < MOST_FOR_AN_OBJECT);
        before = taken();
        run();
        long used = taken() - before - made;
        Check.due("calls take " + used + " bytes", true, used < MOST_FOR_CALLS);
        Check.due("sound", true, x.isSound());
        System.out.println("RoomTest: an object takes " + made + " bytes, its calls " + used);
        Check.end("RoomTest");
    }

    private static long taken() {
        return ((com.sun.management.ThreadMXBean) ManagementFactory.getThreadMXBean()).getCurrentThreadAllocatedBytes();
    }

    /** Some 500 calls, with long lists and an end. */
    private static void run() {
        Lexirack x = new Lexirack();
        x.board(9, 9);
        for (int k = 0; k < 40; k++) {
            x.type((char) ('a' + k / 8));
            x.type((char) ('a' + k % 8));
            x.word(0, 9);
        }
        for (char letter = 'a'; letter <= 'h'; letter++) {
            x.letter(letter, 2, 1);
        }
        x.letter('?', 0, 6);
        x.begin(5, 's', 5);
        for (int turn = 0; turn < 60 && !x.isOver(); turn++) {
            int plays = x.plays();
            x.nodes();
            x.isSound();
            x.holds('a', true);
            x.checksum();
            if (plays == 0) {
                x.pass();
                continue;
            }
            x.bestByLeave();
            x.playListed(plays - 1);
            if (x.bag() == 0 && !x.isOver() && tiles(x) <= 4) {
                x.value();
                x.solved();
            }
        }
    }

    private static int tiles(Lexirack x) {
        int tiles = 0;
        for (int player = 0; player < 2; player++) {
            for (char letter = 'a'; letter <= 'h'; letter++) {
                tiles += x.rack(player, letter);
            }
            tiles += x.rack(player, '?');
        }
        return tiles;
    }
}
