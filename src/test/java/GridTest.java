import java.util.ArrayList;
import java.util.Collections;
import java.util.HashMap;
import java.util.List;
import java.util.Map;
import java.util.Set;
import java.util.TreeMap;

/**
 * Each method, with what it is given at its boundaries and one step beyond, in states at the boundaries of the document:
 * the answer or exception is held against the plain model, and all that can be seen afterwards, too; a refused call must
 * leave all as it was.
 */
public final class GridTest {
    private static final Set<String> CHANGING = Set.of("type", "wipe", "word", "strike", "edition", "letter", "weight", "board",
        "cell", "start", "begin", "play", "playListed", "challenge", "exchange", "pass", "spend", "time", "sheet", "sit", "rate");
    private static final int MOST_IN_A_ROW = 40;
    private static final int[] PLAYERS = {-1, 0, 1, 2};
    private static final int[] SEEDS = {0, -1, Integer.MIN_VALUE, Integer.MAX_VALUE};
    private static final Map<String, Integer> tally = new TreeMap<>();

    /** A call: a name and what is given. */
    private static final class Call {
        final String name;
        final Object[] given;

        Call(String name, Object... given) {
            this.name = name;
            this.given = given;
        }

        Object on(Subject x) {
            return x.call(name, given);
        }

        @Override
        public String toString() {
            return name + java.util.Arrays.toString(given);
        }
    }

    private final String state;
    private final List<Call> script;
    private final Map<Integer, List<Object>> seen = new HashMap<>();

    private GridTest(String state, List<Call> script) {
        this.state = state;
        this.script = script;
    }

    public static void main(String[] args) {
        for (Map.Entry<String, List<Call>> each : states().entrySet()) {
            new GridTest(each.getKey(), each.getValue()).go();
        }
        for (String name : "IllegalArgument IllegalState IndexOutOfBounds NoSuchElement UnsupportedOperation Arithmetic".split(" ")) {
            Check.due("some calls throw " + name, true, tally.getOrDefault(name, 0) > 0);
        }
        if (args.length > 0) {
            tally.forEach((what, many) -> System.out.println(what + " " + many));
        }
        Check.end("GridTest");
    }

    private static Subject made(Object whom, List<Call> script) {
        Subject x = new Subject(whom);
        for (Call call : script) {
            call.on(x);
        }
        return x;
    }

    private void go() {
        Map<String, List<Call>> still = new TreeMap<>();
        for (Call call : grid(made(new Naive(), script))) {
            Object want = call.on(made(new Naive(), script));
            Object got = call.on(made(new Lexirack(), script));
            Check.due(state + ": " + call, String.valueOf(want), String.valueOf(got));
            boolean isRefused = want instanceof String;
            String kind = isRefused ? ((String) want).replaceAll("java\\.(lang|util)\\.|Exception", "") : "answers";
            tally.merge(kind, 1, Integer::sum);
            tally.merge(call.name + " " + kind, 1, Integer::sum);
            if (isRefused || !CHANGING.contains(call.name)) {
                still.computeIfAbsent(call.name + " " + kind, each -> new ArrayList<>()).add(call);
            } else {
                leadsAsDue(call);
            }
        }
        still.values().forEach(this::leaveAllAsItWas);
    }

    private void leadsAsDue(Call call) {
        for (int part = 0; part < Looks.PARTS; part++) {
            Subject got = made(new Lexirack(), script);
            Subject due = made(new Naive(), script);
            call.on(got);
            call.on(due);
            Check.due(state + ": " + call + ", part " + part, Looks.part(part, due), Looks.part(part, got));
        }
    }

    /** The first of these calls by itself, since two changes might undo one another, and all of them in a row. */
    private void leaveAllAsItWas(List<Call> calls) {
        leaveAllAsItWas(calls, 0, 1);
        for (int from = 1; from < calls.size(); from += MOST_IN_A_ROW) {
            leaveAllAsItWas(calls, from, Math.min(from + MOST_IN_A_ROW, calls.size()));
        }
    }

    private void leaveAllAsItWas(List<Call> calls, int from, int behind) {
        for (int part = 0; part < Looks.PARTS; part++) {
            Subject x = made(new Lexirack(), script);
            for (int k = from; k < behind; k++) {
                calls.get(k).on(x);
            }
            String what = state + ": " + calls.get(from) + " and " + (behind - from - 1) + " like it leave all, part " + part;
            Check.due(what, seenBefore(part), Looks.part(part, x));
        }
    }

    private List<Object> seenBefore(int part) {
        return seen.computeIfAbsent(part, each -> Looks.part(each, made(new Lexirack(), script)));
    }

    // The grid.

    private static List<Call> grid(Subject x) {
        List<Call> grid = new ArrayList<>();
        for (String name : ("wipe strike isWord words nodes leave bag mover plays bestByLeave challenge exchange pass isOver"
            + " value solved turns fault rate checksum covered meanPoints isSound").split(" ")) {
            grid.add(new Call(name));
        }
        addBook(grid);
        addKit(grid);
        addBoard(grid, columns(x), rows(x));
        addList(grid, Math.max(0, x.number("plays")), x);
        addTurns(grid, Math.max(0, x.number("turns")));
        addPlayers(grid);
        return grid;
    }

    private static int columns(Subject x) {
        int columns = 0;
        while (x.call("tile", columns, 0) instanceof Character) {
            columns++;
        }
        return columns;
    }

    private static int rows(Subject x) {
        int rows = 0;
        while (x.call("tile", 0, rows) instanceof Character) {
            rows++;
        }
        return rows;
    }

    private static void addBook(List<Call> grid) {
        for (char sign : "`ahi@AHI>?\u0000\uffff".toCharArray()) {
            grid.add(new Call("type", sign));
        }
        for (boolean is : new boolean[] {false, true}) {
            grid.add(new Call("hooks", is));
            grid.add(new Call("anagrams", is));
        }
        int[][] editions = {{-1, 0}, {-1, -1}, {0, 0}, {0, 9}, {9, 9}, {0, 10}, {10, 10}, {1, 0}, {9, 8}, {4, 4}, {4, 3},
            {Integer.MIN_VALUE, Integer.MAX_VALUE}};
        for (int[] each : editions) {
            grid.add(new Call("word", each[0], each[1]));
        }
        for (int edition : new int[] {-1, 0, 1, 9, 10, Integer.MIN_VALUE, Integer.MAX_VALUE}) {
            grid.add(new Call("edition", edition));
        }
    }

    private static void addKit(List<Call> grid) {
        for (int value : new int[] {-1, 0, 10, 11}) {
            for (int count : new int[] {-1, 0, 12, 13}) {
                for (char letter : "ah?i".toCharArray()) {
                    grid.add(new Call("letter", letter, value, count));
                }
            }
        }
        grid.add(new Call("letter", '`', 1, 1));
        grid.add(new Call("letter", 'A', 1, 1));
        grid.add(new Call("letter", '?', Integer.MIN_VALUE, 2));
        for (int weight : new int[] {-21, -20, 20, 21}) {
            for (char letter : "`ahiA?".toCharArray()) {
                grid.add(new Call("weight", letter, weight));
            }
        }
        for (int seconds : new int[] {-1, 0, 60, 3600, 3601, Integer.MIN_VALUE, Integer.MAX_VALUE}) {
            grid.add(new Call("time", seconds));
        }
    }

    private static void addBoard(List<Call> grid, int columns, int rows) {
        for (int side : new int[] {2, 3, 4, 9, 10, Integer.MIN_VALUE, Integer.MAX_VALUE}) {
            grid.add(new Call("board", side, 3));
            grid.add(new Call("board", 9, side));
        }
        for (int column : new int[] {-1, 0, columns / 2, columns - 1, columns}) {
            for (int row : new int[] {-1, 0, rows / 2, rows - 1, rows}) {
                grid.add(new Call("cell", column, row, '#'));
                grid.add(new Call("cell", column, row, 'q'));
                grid.add(new Call("start", column, row));
                grid.add(new Call("tile", column, row));
                grid.add(new Call("play", column, row, false));
                grid.add(new Call("play", column, row, true));
            }
        }
        for (char kind : ".dtDT#cesu\"$+-/CEUS\u0000\uffff".toCharArray()) {
            grid.add(new Call("cell", 1, 1, kind));
        }
        for (int full = 0; full <= 8; full++) {
            grid.add(new Call("begin", full, "vsdf".charAt(full % 4), SEEDS[full % 4]));
        }
        for (char house : "ceguwrtVSDF".toCharArray()) {
            grid.add(new Call("begin", 3, house, 0));
        }
        for (int seed : SEEDS) {
            grid.add(new Call("begin", 2, 's', seed));
        }
    }

    private static void addList(List<Call> grid, int plays, Subject x) {
        for (int index : new int[] {-1, 0, plays - 1, plays, Integer.MIN_VALUE, Integer.MAX_VALUE}) {
            grid.add(new Call("playListed", index));
            for (char what : "xydsnwz".toCharArray()) {
                grid.add(new Call("playAt", index, what));
            }
            int tiles = Math.max(0, x.number("playAt", index, 'n'));
            for (int place : new int[] {-1, 0, tiles - 1, tiles, Integer.MIN_VALUE, Integer.MAX_VALUE}) {
                grid.add(new Call("playTile", index, place));
            }
        }
    }

    private static void addTurns(List<Call> grid, int turns) {
        for (int turn : new int[] {-1, 0, turns - 1, turns, Integer.MIN_VALUE, Integer.MAX_VALUE}) {
            for (char what : "pskqjlort".toCharArray()) {
                grid.add(new Call("turnAt", turn, what));
            }
            for (int points : new int[] {-1, 0, 999, 1000}) {
                grid.add(new Call("sheet", turn, points));
            }
        }
    }

    private static void addPlayers(List<Call> grid) {
        for (int player : PLAYERS) {
            for (char letter : "`ahiA?".toCharArray()) {
                grid.add(new Call("rack", player, letter));
            }
            grid.add(new Call("score", player));
            grid.add(new Call("sheetSum", player));
            for (int seconds : new int[] {-1, 0, 60, 3600, 3601}) {
                grid.add(new Call("spend", player, seconds));
            }
            for (int person = -1; person <= 6; person++) {
                grid.add(new Call("sit", player, person));
            }
        }
        for (char letter : "`ahiA?".toCharArray()) {
            grid.add(new Call("holds", letter, false));
            grid.add(new Call("holds", letter, true));
        }
        for (int person : new int[] {-1, 0, 5, 6, Integer.MIN_VALUE, Integer.MAX_VALUE}) {
            grid.add(new Call("rating", person));
        }
    }

    // The states.

    private static Map<String, List<Call>> states() {
        Map<String, List<Call>> states = new TreeMap<>();
        states.put("01 new", Collections.emptyList());
        states.put("02 a full row", new Script().words("ab").typed("abcABC?de").script);
        states.put("03 a row of eight", new Script().words("ab", "abcdefg").typed("abcdefga").script);
        states.put("04 a full book, a new word", new Script().book(80).typed("hhh").script);
        states.put("05 a full book, a word of it", new Script().book(80).typed("aab").script);
        states.put("06 a book of 79 words, a new word", new Script().book(79).typed("hhh").script);
        states.put("07 a game begun", going("v").typed("ab").script);
        states.put("08 a game looked at", going("v").add("plays").add("value").typed("ab").script);
        states.put("09 a play made", going("s").typed("ab").add("play", 2, 2, false).typed("ab").script);
        states.put("10 a play taken back", going("f").typed("ba").add("play", 2, 2, false).add("challenge").typed("a?").script);
        states.put("11 a turn lost", going("d").typed("ab").add("play", 2, 2, false).add("challenge").typed("A").script);
        states.put("12 five turns without a play", going("s").repeat("pass", 5).typed("ba").script);
        states.put("13 over by six turns", going("s").repeat("pass", 6).add("rate").typed("ab").script);
        states.put("14 an end", end("s", "aabb").add("value").typed("ab").script);
        states.put("15 five tiles, an empty bag", end("s", "aabbb").typed("ab").script);
        states.put("16 a tile too few for an exchange", few(8).typed("a").script);
        states.put("17 as many tiles as an exchange needs", few(9).typed("a").script);
        states.put("18 over by a play", end("f", "aab").typed("ab").add("play", 2, 2, false).script);
        states.put("19 over by a phony", end("s", "aab").typed("ba").add("play", 2, 2, false).add("rate").script);
        states.put("20 over, the set told anew", end("s", "aab").typed("ba").add("play", 2, 2, false)
            .add("letter", 'a', 9, 9).add("cell", 2, 2, 'T').typed("a").script);
        states.put("21 walls alone", walled().script);
        states.put("22 a wide board", new Script().words("aa").add("board", 9, 3).add("begin", 7, 's', 1).typed("aa").script);
        states.put("23 told anew on the sheet", going("s").typed("ab").add("play", 2, 2, false).add("pass")
            .add("sheet", 0, 999).add("sheet", 1, 1).typed("").script);
        states.put("24 no tiles", few(0).typed("a").script);
        states.put("25 four tiles, one in the bag", kit().set("aabbb").add("begin", 2, 'd', 3).typed("b").script);
        states.put("26 a play that stands", going("f").typed("ab").add("play", 2, 2, false).add("challenge").typed("b").script);
        states.put("27 over by a play that stands", end("d", "aab").typed("ab").add("play", 2, 2, false).add("challenge")
            .typed("aB").script);
        states.put("28 an end behind a play", end("s", "aabbb").typed("ab").add("play", 2, 2, false).typed("b").script);
        return states;
    }

    private static Script kit() {
        return new Script().words("ab", "aab", "abb", "abab").word("ha", 3, 5)
            .add("weight", 'a', 3).add("weight", '?', 20).add("cell", 2, 2, 'D').add("cell", 3, 2, 't').add("cell", 0, 0, '#')
            .add("time", 30).add("sit", 0, 3);
    }

    private static Script going(String house) {
        Script script = kit().add("letter", 'a', 2, 12).add("letter", 'b', 3, 12).add("letter", '?', 0, 3);
        for (char letter : "cdefg".toCharArray()) {
            script.add("letter", letter, 1, 0);
        }
        return script.add("begin", 5, house.charAt(0), 3).add("spend", 0, 90).add("spend", 1, 61);
    }

    /** All tiles are on the racks. */
    private static Script end(String house, String tiles) {
        Script script = kit().set(tiles);
        return script.add("begin", tiles.length() > 3 ? 3 : 2, house.charAt(0), tiles.length() == 3 ? 1 : 3).add("spend", 1, 91);
    }

    private static Script few(int tiles) {
        return kit().set("a".repeat(tiles)).add("begin", 3, 'v', 3);
    }

    private static Script walled() {
        Script script = kit().add("board", 3, 3);
        for (int cell = 0; cell < 9; cell++) {
            script.add("cell", cell % 3, cell / 3, '#');
        }
        return script.set("aabb").add("begin", 1, 's', 0).typed("a");
    }

    /** Calls that make a state. */
    private static final class Script {
        final List<Call> script = new ArrayList<>();

        Script add(String name, Object... given) {
            script.add(new Call(name, given));
            return this;
        }

        Script repeat(String name, int times) {
            for (int k = 0; k < times; k++) {
                script.add(new Call(name));
            }
            return this;
        }

        Script typed(String signs) {
            add("wipe");
            for (char sign : signs.toCharArray()) {
                add("type", sign);
            }
            return this;
        }

        Script word(String word, int first, int last) {
            return typed(word).add("word", first, last);
        }

        Script words(String... words) {
            for (String word : words) {
                word(word, 0, 9);
            }
            return this;
        }

        Script book(int words) {
            for (int k = 0; k < words; k++) {
                for (char letter : ((k < 64 ? "" : "a") + (char) ('a' + k / 8 % 8) + (char) ('a' + k % 8)).toCharArray()) {
                    add("type", letter);
                }
                add("word", k % 5, 5 + k % 5);
            }
            return this;
        }

        Script set(String tiles) {
            for (char kind : "abcdefgh?".toCharArray()) {
                add("letter", kind, kind == '?' ? 0 : kind - 'a' + 2, (int) tiles.chars().filter(tile -> tile == kind).count());
            }
            return this;
        }
    }
}
