import java.util.ArrayList;
import java.util.HashMap;
import java.util.List;
import java.util.Map;
import java.util.Random;

/** Random runs of calls, each held against Naive, which does what the document says by trying everything. */
public final class FuzzTest {
    private static final int MOST_CALLS = Subject.MOST_CALLS;
    private static final Map<String, Integer> tally = new HashMap<>();

    private final Random random;
    private final Naive due = new Naive();
    private final Subject plain = new Subject(due);
    private final Subject got = new Subject(new Lexirack());
    private final List<String> log = new ArrayList<>();
    private int calls = 0;
    private int letters;
    private boolean isEnd;
    private boolean isWrong = false;

    private FuzzTest(long seed) {
        random = new Random(seed);
    }

    public static void main(String[] args) {
        int runs = args.length > 0 ? Integer.parseInt(args[0]) : 500;
        long from = args.length > 1 ? Long.parseLong(args[1]) : 1;
        int wrong = 0;
        for (long seed = from; seed < from + runs && wrong < 3; seed++) {
            FuzzTest run = new FuzzTest(seed);
            run.go();
            if (run.isWrong) {
                wrong++;
                System.out.println("seed " + seed + ":\n" + String.join("\n", run.log));
            }
        }
        if (args.length > 2) {
            tally.entrySet().stream().sorted(Map.Entry.comparingByKey())
                .forEach(each -> System.out.println(each.getKey() + " " + each.getValue()));
        }
        System.out.println(wrong == 0 ? "FuzzTest: all as due" : "FuzzTest: " + wrong + " runs not as due");
        if (wrong != 0) {
            System.exit(1);
        }
    }

    /** The answer as a number, or Integer.MIN_VALUE behind an exception. */
    private int call(String name, Object... given) {
        if (isWrong || calls >= MOST_CALLS) {
            return Integer.MIN_VALUE;
        }
        calls++;
        Object second = plain.call(name, given);
        Object first = got.call(name, given);
        String text = name + java.util.Arrays.toString(given) + " answered " + first;
        log.add(text);
        String class0 = name + " " + (first instanceof String || first instanceof Boolean ? first : "answers");
        tally.merge(second == null ? name + " too much" : class0, 1, Integer::sum);
        if (second != null && !first.equals(second)) {
            log.add("due is " + second);
            isWrong = true;
        }
        if (name.equals("isSound") && !Boolean.TRUE.equals(first)) {
            isWrong = true;
        }
        return Subject.numberOf(first);
    }

    private boolean oneIn(int many) {
        return random.nextInt(many) == 0;
    }

    private int between(int least, int most) {
        return least + random.nextInt(most - least + 1);
    }

    private char anyLetter() {
        return (char) ('a' + random.nextInt(letters));
    }

    private char anyKind() {
        return oneIn(40) ? "ijA!@Z".charAt(random.nextInt(6)) : oneIn(6) ? '?' : oneIn(4) ? (char) between('a', 'h') : anyLetter();
    }

    private char anySign() {
        return oneIn(60) ? "i`@I!~".charAt(random.nextInt(6)) : oneIn(8) ? '?' : oneIn(6) ? Character.toUpperCase(anyLetter()) : anyLetter();
    }

    private int player() {
        return oneIn(25) ? between(-2, 3) : between(0, 1);
    }

    private void typeWord() {
        if (!oneIn(20)) {
            call("wipe");
        }
        int size = oneIn(10) ? between(1, 9) : oneIn(3) ? between(2, 7) : between(2, 3);
        for (int k = 0; k < size; k++) {
            call("type", oneIn(60) ? anySign() : anyLetter());
        }
    }

    /** Words that can be made of what is on a rack and lies on the board. */
    private void addLikelyWords(int most) {
        String tiles = due.tilesOf(between(0, 1)) + due.lettersLaid();
        for (int k = 0; k < most && !tiles.isEmpty(); k++) {
            call("wipe");
            for (int size = oneIn(3) ? between(2, 7) : between(2, 3); size > 0; size--) {
                char kind = tiles.charAt(random.nextInt(tiles.length()));
                call("type", kind == '?' ? anyLetter() : kind);
            }
            call("word", oneIn(5) ? between(0, 4) : 0, 9);
        }
    }

    private void addWords(int most) {
        for (int k = 0; k < most; k++) {
            typeWord();
            boolean isOften = !oneIn(4);
            call("word", isOften ? 0 : between(-1, 10), isOften ? 9 : between(-1, 10));
        }
    }

    /** Few tiles, so that the bag is empty soon. */
    private void setFewTiles() {
        int[] counts = new int[letters + 1];
        for (int tiles = between(3, 8); tiles > 0; tiles--) {
            counts[random.nextInt(counts.length)]++;
        }
        for (char letter = 'a'; letter <= 'h'; letter++) {
            call("letter", letter, between(0, 10), letter < 'a' + letters ? counts[letter - 'a'] : 0);
        }
        call("letter", '?', 0, counts[letters]);
    }

    private void setTiles() {
        if (isEnd) {
            setFewTiles();
            return;
        }
        boolean isFew = oneIn(2);
        for (char letter = 'a'; letter <= 'h'; letter++) {
            boolean isUsed = letter < 'a' + letters;
            int most = isFew ? 2 : oneIn(10) ? 12 : 4;
            if (!oneIn(30)) {
                call("letter", letter, between(0, 10), isUsed ? between(isFew ? 0 : 2, most) : 0);
            }
        }
        call("letter", '?', between(-5, 20), oneIn(3) ? between(0, 3) : oneIn(2) ? 1 : 0);
    }

    private void setBoard() {
        if (oneIn(2)) {
            call("board", between(3, oneIn(4) ? 9 : 5), between(3, oneIn(4) ? 9 : 5));
        }
        int many = between(0, 8);
        for (int k = 0; k < many; k++) {
            call("cell", between(0, 5), between(0, 5), oneIn(20) ? 'x' : "..ddttDDTT#".charAt(random.nextInt(11)));
        }
        if (oneIn(4)) {
            call("start", between(-1, 5), between(0, 4));
        }
    }

    private void begin() {
        char house = oneIn(60) ? 'x' : "vsdf".charAt(random.nextInt(4));
        int full = oneIn(40) ? between(-1, 9) : oneIn(2) ? between(1, 3) : between(2, 7);
        call("begin", full, house, oneIn(2) ? random.nextInt() : between(-100, 100));
    }

    private void go() {
        letters = oneIn(3) ? between(2, 8) : between(1, 4);
        if (oneIn(20)) {
            goThroughBooks();
            return;
        }
        isEnd = oneIn(4);
        addWords(oneIn(12) ? 60 : oneIn(8) ? between(0, 3) : between(6, 20));
        if (oneIn(3)) {
            call("edition", between(0, 9));
        }
        for (int k = between(0, 6); k > 0; k--) {
            call("weight", anyKind(), between(-21, 21));
        }
        setTiles();
        setBoard();
        begin();
        addLikelyWords(oneIn(6) ? 0 : between(3, 12));
        while (calls < MOST_CALLS && !isWrong) {
            step();
        }
    }

    private void goThroughBooks() {
        while (calls < MOST_CALLS && !isWrong) {
            call("wipe");
            for (int size = between(2, 7); size > 0; size--) {
                call("type", anyLetter());
            }
            if (oneIn(12)) {
                call("strike");
            }
            boolean isOften = !oneIn(3);
            call("word", isOften ? 0 : between(0, 5), isOften ? 9 : between(4, 9));
            if (oneIn(6)) {
                call("edition", between(0, 9));
                call("nodes");
            }
            call("isWord");
        }
        call("nodes");
    }

    private void step() {
        if (call("isOver") == 1 && !oneIn(4)) {
            lookAtGame();
            if (oneIn(3)) {
                call("start", between(0, 4), between(0, 4));
            }
            call("challenge");
            lookAtRatings();
            call("score", 0);
            call("score", 1);
            begin();
        }
        int what = random.nextInt(100);
        if (isEnd && oneIn(5)) {
            lookAtEnd();
        }
        if (what < 40) {
            makeTurn();
        } else if (what < 45) {
            lookAtList();
        } else if (what < 55) {
            lookAtGame();
        } else if (what < 62) {
            call("challenge");
        } else if (what < 68) {
            lookAtEnd();
        } else if (what < 73) {
            lookAtBook();
        } else if (what < 78) {
            changeBook();
        } else if (what < 84) {
            lookAtSheet();
        } else if (what < 88) {
            lookAtRatings();
        } else if (what < 92) {
            call("spend", player(), oneIn(20) ? between(-2, 4000) : between(0, 700));
            call("time", oneIn(20) ? between(-2, 4000) : between(0, 900));
        } else if (what < 95) {
            if (oneIn(3)) {
                setTiles();
            }
            if (oneIn(3)) {
                setBoard();
            }
            call("letter", anyKind(), between(-1, 11), between(-1, 13));
            call("weight", anyKind(), between(-21, 21));
        } else if (what < 97) {
            if (oneIn(2)) {
                begin();
            }
        } else {
            call("isSound");
        }
    }

    private void makeTurn() {
        int many = call("plays");
        int how = random.nextInt(20);
        if (how < 7 && many > 0) {
            call("playListed", oneIn(30) ? many : oneIn(2) ? 0 : random.nextInt(many));
        } else if (how < 10 && many > 0) {
            typePlay(random.nextInt(many));
        } else if (how < 14) {
            typeFromRack(between(1, 4));
            for (int tries = 0; tries < 4; tries++) {
                if (call("play", between(0, 4), between(0, 4), oneIn(2)) >= 0) {
                    break;
                }
            }
        } else if (how < 16) {
            typeFromRack(between(0, 3));
            call("exchange");
        } else if (how < 17) {
            for (int k = between(0, 9); k > 0; k--) {
                call("type", anySign());
            }
            call(oneIn(2) ? "exchange" : "wipe");
            call("play", between(-1, 5), between(-1, 5), oneIn(2));
        } else {
            call("pass");
        }
    }

    private void typePlay(int index) {
        call("wipe");
        int tiles = call("playAt", index, 'n');
        for (int k = 0; k < tiles; k++) {
            int sign = call("playTile", index, k);
            if (sign > 0) {
                call("type", (char) sign);
            }
        }
        int x = call("playAt", index, 'x');
        int y = call("playAt", index, 'y');
        int d = call("playAt", index, 'd');
        call("play", x, y, oneIn(10) ? d == 0 : d == 1);
    }

    private void typeFromRack(int size) {
        call("wipe");
        int mover = call("mover");
        String tiles = mover >= 0 ? due.tilesOf(mover) : "";
        for (int typed = 0; typed < size && !tiles.isEmpty(); typed++) {
            int place = random.nextInt(tiles.length());
            char kind = tiles.charAt(place);
            call("type", kind == '?' && !oneIn(8) ? Character.toUpperCase(anyLetter()) : kind);
            if (!oneIn(20)) {
                tiles = tiles.substring(0, place) + tiles.substring(place + 1);
            }
        }
    }

    private void lookAtList() {
        int many = Math.max(0, call("plays"));
        call("bestByLeave");
        for (int k = oneIn(3) ? 4 : 1; k > 0; k--) {
            int index = oneIn(20) ? between(-1, many + 1) : many == 0 ? 0 : random.nextInt(many);
            for (char what : "xydsnw".toCharArray()) {
                call("playAt", index, what);
            }
            call("playTile", index, between(oneIn(20) ? -1 : 0, oneIn(4) ? 7 : 1));
            if (oneIn(10)) {
                call("playAt", index, 'q');
            }
        }
    }

    private void lookAtGame() {
        call("checksum");
        call("bag");
        call("isOver");
        call("score", player());
        call("rack", player(), anyKind());
        call("tile", between(oneIn(20) ? -1 : 0, 5), between(0, 5));
        call("covered");
        call("meanPoints");
        call("mover");
    }

    private void lookAtEnd() {
        call("value");
        call("solved");
        call("holds", anyKind(), oneIn(2));
        call("holds", anyKind(), oneIn(2));
    }

    private void lookAtBook() {
        call("words");
        call("nodes");
        typeWord();
        call("isWord");
        call("hooks", oneIn(2));
        call("type", anySign());
        call("anagrams", oneIn(2));
        call("leave");
        call("hooks", oneIn(2));
    }

    private void changeBook() {
        if (oneIn(2)) {
            addLikelyWords(between(1, 3));
        } else if (oneIn(3)) {
            addWords(1);
        } else if (oneIn(3)) {
            call("edition", oneIn(20) ? 10 : between(0, 9));
        } else {
            typeWord();
            call("strike");
        }
    }

    private void lookAtSheet() {
        int turns = Math.max(0, call("turns"));
        int turn = oneIn(20) ? between(-1, turns) : turns == 0 ? 0 : random.nextInt(turns);
        for (char what : "psk".toCharArray()) {
            call("turnAt", turn, what);
        }
        if (oneIn(2)) {
            call("sheet", turn, oneIn(20) ? between(-1, 1001) : oneIn(2) ? 0 : between(0, 30));
        }
        call("fault");
        call("sheetSum", player());
        if (oneIn(10)) {
            call("turnAt", turn, 'x');
        }
    }

    private void lookAtRatings() {
        call("sit", player(), oneIn(20) ? between(-1, 7) : between(0, 5));
        call("rate");
        call("rating", oneIn(20) ? between(-1, 7) : between(0, 5));
    }
}
