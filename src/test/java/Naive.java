import java.util.ArrayList;
import java.util.Arrays;
import java.util.Comparator;
import java.util.HashMap;
import java.util.HashSet;
import java.util.List;
import java.util.Map;
import java.util.NoSuchElementException;
import java.util.Set;
import java.util.TreeMap;
import java.math.BigInteger;

/**
 * The document once more, in its plainest form and without regard to speed or room: texts, maps, and search by trying
 * everything. It is written to be held against Lexirack, so it shares no way of working with it.
 */
final class Naive {
    private static final String KINDS = "abcdefgh?";

    /** A play of the list, or one just made. */
    static final class Play {
        int column;
        int row;
        boolean isDown;
        String tiles;
        int score;
        int words;
        List<int[]> cells;
    }

    /** A turn of the game. */
    static final class Turn {
        int player;
        int points;
        int kind;
        Integer told;
    }

    /** What a position of the end is found by. */
    static final class TooMuch extends RuntimeException {
        private static final long serialVersionUID = 1L;
    }

    private String row = "";
    private final TreeMap<String, int[]> book = new TreeMap<>();
    private int edition = 0;
    private final Map<Character, Integer> values = new HashMap<>();
    private final Map<Character, Integer> counts = new HashMap<>();
    private final Map<Character, Integer> weights = new HashMap<>();
    private char[][] cells;
    private int startColumn;
    private int startRow;
    private int told = 600;
    private final int[] seats = {0, 1};
    private final int[] ratings = {1000, 1000, 1000, 1000, 1000, 1000};

    private boolean isBegun = false;
    private Map<Character, Integer> gameValues;
    private Map<Character, Integer> gameCounts;
    private char[][] gameCells;
    private char[][] tiles;
    private int full;
    private char house;
    private int z;
    private StringBuilder[] racks;
    private StringBuilder bag;
    private int mover;
    private int[] points;
    private int[] prizes;
    private int[] spent;
    private List<Turn> turns;
    private boolean isChallenged;
    private boolean isRated;
    private Play last;
    private String drawn;
    private int steps;
    private Map<String, Integer> known;
    private List<Play> listOfMover;

    Naive() {
        for (char kind : KINDS.toCharArray()) {
            values.put(kind, kind == '?' ? 0 : 1);
            counts.put(kind, kind == '?' ? 2 : 4);
            weights.put(kind, 0);
        }
        makeBoard(5, 5);
    }

    private void makeBoard(int columns, int rows) {
        cells = new char[rows][columns];
        for (char[] line : cells) {
            Arrays.fill(line, '.');
        }
        startColumn = columns / 2;
        startRow = rows / 2;
    }

    private boolean goesOn() {
        return isBegun && !ended();
    }

    private static void argument(boolean holds) {
        if (!holds) {
            throw new IllegalArgumentException();
        }
    }

    private static void state(boolean holds) {
        if (!holds) {
            throw new IllegalStateException();
        }
    }

    private static void index(boolean holds) {
        if (!holds) {
            throw new IndexOutOfBoundsException();
        }
    }

    private static void element(boolean holds) {
        if (!holds) {
            throw new NoSuchElementException();
        }
    }

    private static void supported(boolean holds) {
        if (!holds) {
            throw new UnsupportedOperationException();
        }
    }

    /** What a test looks at to choose its calls. */
    String tilesOf(int player) {
        return isBegun ? racks[player].toString() : "";
    }

    String lettersLaid() {
        StringBuilder laid = new StringBuilder();
        for (int y = 0; isBegun && y < tiles.length; y++) {
            laid.append(new String(tiles[y]).toLowerCase().replace(".", ""));
        }
        return laid.toString();
    }

    int type(char sign) {
        argument("abcdefghABCDEFGH?".indexOf(sign) >= 0);
        state(row.length() < 9);
        row += sign;
        return row.length();
    }

    int wipe() {
        int had = row.length();
        row = "";
        return had;
    }

    int word(int first, int last) {
        argument(row.matches("[a-h]{2,7}") && first >= 0 && first <= 9 && last >= 0 && last <= 9 && first <= last);
        state(book.containsKey(row) || book.size() < 80);
        book.put(row, new int[] {first, last});
        listOfMover = null;
        row = "";
        return book.size();
    }

    int strike() {
        element(book.containsKey(row));
        book.remove(row);
        listOfMover = null;
        row = "";
        return book.size();
    }

    int edition(int next) {
        argument(next >= 0 && next <= 9);
        int before = edition;
        edition = next;
        listOfMover = null;
        return before;
    }

    private boolean counts(String word) {
        int[] span = book.get(word);
        return span != null && span[0] <= edition && edition <= span[1];
    }

    private List<String> present() {
        List<String> words = new ArrayList<>();
        for (String word : book.keySet()) {
            if (counts(word)) {
                words.add(word);
            }
        }
        return words;
    }

    boolean isWord() {
        return counts(row);
    }

    int words() {
        return present().size();
    }

    int nodes() {
        Set<Set<String>> follows = new HashSet<>();
        for (String word : present()) {
            for (int k = 0; k <= word.length(); k++) {
                Set<String> after = new HashSet<>();
                for (String other : present()) {
                    if (other.startsWith(word.substring(0, k))) {
                        after.add(other.substring(k));
                    }
                }
                follows.add(after);
            }
        }
        return follows.size();
    }

    int hooks(boolean isInFront) {
        int sum = 0;
        for (char letter = 'a'; letter <= 'h'; letter++) {
            if (counts(isInFront ? letter + row : row + letter)) {
                sum += (int) Math.pow(2, letter - 'a');
            }
        }
        return sum;
    }

    private static String asKinds(String signs) {
        StringBuilder kinds = new StringBuilder(signs);
        for (int k = 0; k < kinds.length(); k++) {
            if (Character.isUpperCase(kinds.charAt(k))) {
                kinds.setCharAt(k, '?');
            }
        }
        return kinds.toString();
    }

    int anagrams(boolean isAll) {
        int found = 0;
        for (String word : present()) {
            StringBuilder rest = new StringBuilder(asKinds(row));
            boolean can = true;
            for (char letter : word.toCharArray()) {
                int place = rest.indexOf(String.valueOf(letter));
                if (place < 0) {
                    place = rest.indexOf("?");
                }
                if (place < 0) {
                    can = false;
                    break;
                }
                rest.deleteCharAt(place);
            }
            if (can && (!isAll || rest.length() == 0)) {
                found++;
            }
        }
        return found;
    }

    int letter(char letter, int value, int count) {
        argument(KINDS.indexOf(letter) >= 0 && count >= 0 && count <= 12);
        argument(letter == '?' || value >= 0 && value <= 10);
        state(!goesOn());
        int before = 100 * values.get(letter) + counts.get(letter);
        if (letter != '?') {
            values.put(letter, value);
        }
        counts.put(letter, count);
        return before;
    }

    int weight(char letter, int weight) {
        argument(KINDS.indexOf(letter) >= 0 && weight >= -20 && weight <= 20);
        return weights.put(letter, weight);
    }

    int leave() {
        return worth(asKinds(row));
    }

    private int worth(String leave) {
        int worth = 0;
        int vowels = 0;
        int others = 0;
        for (int k = 0; k < leave.length(); k++) {
            char kind = leave.charAt(k);
            worth += weights.get(kind);
            if (leave.indexOf(kind) < k) {
                worth -= 5;
            }
            if (kind == 'a' || kind == 'e') {
                vowels++;
            } else if (kind != '?') {
                others++;
            }
        }
        return worth - 3 * Math.abs(vowels - others);
    }

    int board(int columns, int rows) {
        argument(columns >= 3 && columns <= 9 && rows >= 3 && rows <= 9);
        state(!goesOn());
        makeBoard(columns, rows);
        isBegun = false;
        return columns * rows;
    }

    private boolean hasCell(int column, int line) {
        return line >= 0 && line < cells.length && column >= 0 && column < cells[0].length;
    }

    char cell(int column, int line, char kind) {
        index(hasCell(column, line));
        argument(".dtDT#".indexOf(kind) >= 0);
        state(!goesOn());
        char before = cells[line][column];
        cells[line][column] = kind;
        return before;
    }

    int start(int column, int line) {
        index(hasCell(column, line));
        state(!goesOn());
        int before = 100 * startColumn + startRow;
        startColumn = column;
        startRow = line;
        listOfMover = null;
        return before;
    }

    int begin(int rackSize, char kind, int seed) {
        argument(rackSize >= 1 && rackSize <= 7 && "vsdf".indexOf(kind) >= 0);
        gameValues = new HashMap<>(values);
        gameCounts = new HashMap<>(counts);
        gameCells = new char[cells.length][];
        tiles = new char[cells.length][cells[0].length];
        for (int y = 0; y < cells.length; y++) {
            gameCells[y] = cells[y].clone();
            Arrays.fill(tiles[y], '.');
        }
        full = rackSize;
        house = kind;
        z = seed;
        bag = new StringBuilder();
        for (char each : KINDS.toCharArray()) {
            bag.append(String.valueOf(each).repeat(counts.get(each)));
        }
        racks = new StringBuilder[] {new StringBuilder(), new StringBuilder()};
        points = new int[2];
        prizes = new int[2];
        spent = new int[2];
        turns = new ArrayList<>();
        isChallenged = false;
        isRated = false;
        last = null;
        mover = 0;
        isBegun = true;
        listOfMover = null;
        drawUp(0);
        drawUp(1);
        return bag.length();
    }

    private char drawOne() {
        z = z * 1103515245 + 12345;
        long unsigned = z & 0xffffffffL;
        int place = (int) ((unsigned >> 16) % bag.length());
        char drawnTile = bag.charAt(place);
        bag.deleteCharAt(place);
        return drawnTile;
    }

    private void putBack(String back) {
        for (char each : back.toCharArray()) {
            int place = 0;
            while (place < bag.length() && KINDS.indexOf(bag.charAt(place)) <= KINDS.indexOf(each)) {
                place++;
            }
            bag.insert(place, each);
        }
    }

    private String drawUp(int player) {
        String got = "";
        while (racks[player].length() < full && bag.length() > 0) {
            char each = drawOne();
            racks[player].append(each);
            got += each;
        }
        return got;
    }

    private static boolean takeFrom(StringBuilder rack, String wanted) {
        String before = rack.toString();
        for (char each : wanted.toCharArray()) {
            int place = rack.indexOf(String.valueOf(each));
            if (place < 0) {
                rack.setLength(0);
                rack.append(before);
                return false;
            }
            rack.deleteCharAt(place);
        }
        return true;
    }

    private static int number(CharSequence signs, char wanted) {
        int number = 0;
        for (int k = 0; k < signs.length(); k++) {
            number += signs.charAt(k) == wanted ? 1 : 0;
        }
        return number;
    }

    char tile(int column, int line) {
        index(hasCell(column, line));
        return isBegun ? tiles[line][column] : '.';
    }

    int rack(int player, char letter) {
        state(isBegun);
        argument((player == 0 || player == 1) && KINDS.indexOf(letter) >= 0);
        return number(racks[player], letter);
    }

    int bag() {
        state(isBegun);
        return bag.length();
    }

    int mover() {
        state(goesOn());
        return mover;
    }

    private char tileAt(int column, int line) {
        return hasCell(column, line) ? tiles[line][column] : '.';
    }

    /** Null if it goes over a wall or an edge, or its first cell is not free. */
    private List<int[]> cellsFor(int column, int line, boolean isDown, int size) {
        List<int[]> found = new ArrayList<>();
        int x = column;
        int y = line;
        if (tileAt(x, y) != '.') {
            return null;
        }
        while (found.size() < size) {
            if (!hasCell(x, y) || gameCells[y][x] == '#') {
                return null;
            }
            if (tiles[y][x] == '.') {
                found.add(new int[] {x, y});
            }
            x += isDown ? 0 : 1;
            y += isDown ? 1 : 0;
        }
        return found;
    }

    /** The word through a cell, with what it scores; null if it has one letter. */
    private Object[] wordThrough(int column, int line, boolean isDown, List<int[]> fresh) {
        int dx = isDown ? 0 : 1;
        int dy = isDown ? 1 : 0;
        int x = column;
        int y = line;
        while (tileAt(x - dx, y - dy) != '.') {
            x -= dx;
            y -= dy;
        }
        StringBuilder text = new StringBuilder();
        int sum = 0;
        int times = 1;
        while (tileAt(x, y) != '.') {
            char sign = tileAt(x, y);
            int value = Character.isUpperCase(sign) ? 0 : gameValues.get(sign);
            for (int[] each : fresh) {
                if (each[0] == x && each[1] == y) {
                    char kind = gameCells[y][x];
                    value *= kind == 'd' ? 2 : kind == 't' ? 3 : 1;
                    times *= kind == 'D' ? 2 : kind == 'T' ? 3 : 1;
                }
            }
            sum += value;
            text.append(Character.toLowerCase(sign));
            x += dx;
            y += dy;
        }
        return text.length() < 2 ? null : new Object[] {text.toString(), sum * times};
    }

    private boolean isEmptyBoard() {
        for (char[] line : tiles) {
            for (char sign : line) {
                if (sign != '.') {
                    return false;
                }
            }
        }
        return true;
    }

    private void set(List<int[]> where, String what) {
        for (int k = 0; k < where.size(); k++) {
            tiles[where.get(k)[1]][where.get(k)[0]] = what == null ? '.' : what.charAt(k);
        }
    }

    private List<Object[]> wordsOf(List<int[]> fresh, boolean isDown) {
        List<Object[]> words = new ArrayList<>();
        words.add(wordThrough(fresh.get(0)[0], fresh.get(0)[1], isDown, fresh));
        for (int[] each : fresh) {
            words.add(wordThrough(each[0], each[1], !isDown, fresh));
        }
        words.removeIf(word -> word == null);
        return words;
    }

    private boolean areLawful(List<Object[]> words) {
        for (Object[] word : words) {
            if (!counts((String) word[0])) {
                return false;
            }
        }
        return true;
    }

    /** The play if it can be laid, else null; the board stays as it is. */
    private Play layable(int column, int line, boolean isDown, String signs, String rack, boolean mustBeLawful) {
        if (signs.isEmpty() || signs.indexOf('?') >= 0 || !takeFrom(new StringBuilder(rack), asKinds(signs))) {
            return null;
        }
        List<int[]> where = cellsFor(column, line, isDown, signs.length());
        if (where == null) {
            return null;
        }
        boolean isFirst = isEmptyBoard();
        boolean isJoined = false;
        for (int[] each : where) {
            int x = each[0];
            int y = each[1];
            isJoined |= isFirst ? x == startColumn && y == startRow : tileAt(x - 1, y) != '.' || tileAt(x + 1, y) != '.'
                || tileAt(x, y - 1) != '.' || tileAt(x, y + 1) != '.';
        }
        set(where, signs);
        List<Object[]> words = wordsOf(where, isDown);
        set(where, null);
        if (!isJoined || words.isEmpty() || mustBeLawful && !areLawful(words)) {
            return null;
        }
        Play play = new Play();
        play.column = column;
        play.row = line;
        play.isDown = isDown;
        play.tiles = signs;
        play.words = words.size();
        play.cells = where;
        play.score = signs.length() == full ? 50 : 0;
        for (Object[] word : words) {
            play.score += (int) word[1];
        }
        return play;
    }

    private void tryAll(String signs, int at, int column, int line, boolean isDown, String rack, List<Play> into) {
        if (at == signs.length()) {
            Play play = layable(column, line, isDown, signs, rack, true);
            if (play != null) {
                into.add(play);
            }
            return;
        }
        tryAll(signs, at + 1, column, line, isDown, rack, into);
        String other = signs.substring(0, at) + Character.toUpperCase(signs.charAt(at)) + signs.substring(at + 1);
        tryAll(other, at + 1, column, line, isDown, rack, into);
    }

    /** The list of who moves, found anew behind each call that may change it. */
    private List<Play> listNow() {
        if (listOfMover == null) {
            listOfMover = list(mover);
        }
        return listOfMover;
    }

    /** Tries each word of the book at each place, and single letters at each cell. */
    private List<Play> list(int player) {
        String rack = racks[player].toString();
        List<Play> found = new ArrayList<>();
        Set<String> seen = new HashSet<>();
        for (int y = 0; y < cells.length; y++) {
            for (int x = 0; x < cells[0].length; x++) {
                for (char letter = 'a'; letter <= 'h' && tiles[y][x] == '.' && !rack.isEmpty(); letter++) {
                    List<Play> singles = new ArrayList<>();
                    tryAll(String.valueOf(letter), 0, x, y, false, rack, singles);
                    for (Play play : singles) {
                        play.isDown = tileAt(x - 1, y) == '.' && tileAt(x + 1, y) == '.';
                        found.add(play);
                    }
                }
                for (String word : present()) {
                    placeWord(word, x, y, false, rack, found, seen);
                    placeWord(word, x, y, true, rack, found, seen);
                }
            }
        }
        found.sort(Comparator.comparing((Play play) -> -play.score).thenComparing(play -> play.row)
            .thenComparing(play -> play.column).thenComparing(play -> play.isDown)
            .thenComparing(play -> orderOf(play.tiles)));
        return found;
    }

    private static String orderOf(String signs) {
        StringBuilder order = new StringBuilder();
        for (char sign : signs.toCharArray()) {
            order.append(Character.isUpperCase(sign) ? "1" : "0").append(Character.toLowerCase(sign));
        }
        return order.toString();
    }

    private void placeWord(String word, int x, int y, boolean isDown, String rack, List<Play> found, Set<String> seen) {
        String needed = "";
        int firstX = -1;
        int firstY = -1;
        for (int k = 0; k < word.length(); k++) {
            int column = isDown ? x : x + k;
            int line = isDown ? y + k : y;
            if (!hasCell(column, line) || gameCells[line][column] == '#') {
                return;
            }
            if (tiles[line][column] == '.') {
                if (needed.isEmpty()) {
                    firstX = column;
                    firstY = line;
                }
                needed += word.charAt(k);
            } else if (Character.toLowerCase(tiles[line][column]) != word.charAt(k)) {
                return;
            }
        }
        if (needed.length() < 2 || needed.length() > rack.length()) {
            return;
        }
        List<Play> plays = new ArrayList<>();
        tryAll(needed, 0, firstX, firstY, isDown, rack, plays);
        for (Play play : plays) {
            if (seen.add(play.column + " " + play.row + " " + play.isDown + " " + play.tiles)) {
                found.add(play);
            }
        }
    }

    int plays() {
        state(goesOn());
        return listNow().size();
    }

    int playAt(int at, char what) {
        state(goesOn());
        List<Play> list = listNow();
        element(at >= 0 && at < list.size());
        argument("xydsnw".indexOf(what) >= 0);
        Play play = list.get(at);
        return what == 'x' ? play.column : what == 'y' ? play.row : what == 'd' ? (play.isDown ? 1 : 0)
            : what == 's' ? play.score : what == 'n' ? play.tiles.length() : play.words;
    }

    char playTile(int at, int place) {
        state(goesOn());
        List<Play> list = listNow();
        element(at >= 0 && at < list.size());
        element(place >= 0 && place < list.get(at).tiles.length());
        return list.get(at).tiles.charAt(place);
    }

    int bestByLeave() {
        state(goesOn());
        List<Play> list = listNow();
        element(!list.isEmpty());
        int best = -1;
        int most = Integer.MIN_VALUE;
        for (int k = 0; k < list.size(); k++) {
            StringBuilder left = new StringBuilder(racks[mover]);
            takeFrom(left, asKinds(list.get(k).tiles));
            int sum = list.get(k).score + worth(left.toString());
            if (sum > most) {
                most = sum;
                best = k;
            }
        }
        return best;
    }

    private int make(Play play) {
        set(play.cells, play.tiles);
        takeFrom(racks[mover], asKinds(play.tiles));
        points[mover] += play.score;
        last = play;
        isChallenged = false;
        drawn = drawUp(mover);
        turn(0, play.score);
        return play.score;
    }

    private void turn(int kind, int score) {
        Turn turn = new Turn();
        turn.player = mover;
        turn.kind = kind;
        turn.points = score;
        turns.add(turn);
        mover = 1 - mover;
        listOfMover = null;
    }

    int play(int column, int line, boolean isDown) {
        state(goesOn());
        index(hasCell(column, line));
        Play play = layable(column, line, isDown, row, racks[mover].toString(), house == 'v');
        supported(play != null);
        row = "";
        return make(play);
    }

    int playListed(int at) {
        state(goesOn());
        List<Play> list = listNow();
        element(at >= 0 && at < list.size());
        return make(list.get(at));
    }

    private int idle() {
        int idle = 0;
        for (Turn turn : turns) {
            idle = turn.kind == 0 ? 0 : idle + 1;
        }
        return idle;
    }

    private boolean wentOut() {
        return !turns.isEmpty() && turns.get(turns.size() - 1).kind == 0 && bag.length() == 0
            && racks[turns.get(turns.size() - 1).player].length() == 0;
    }

    private boolean ended() {
        return wentOut() || idle() >= 6;
    }

    boolean challenge() {
        state(isBegun);
        supported(!turns.isEmpty() && turns.get(turns.size() - 1).kind == 0 && !isChallenged && house != 'v');
        Turn turn = turns.get(turns.size() - 1);
        isChallenged = true;
        listOfMover = null;
        if (!areLawful(wordsOf(last.cells, last.isDown))) {
            set(last.cells, null);
            takeFrom(racks[turn.player], drawn);
            putBack(drawn);
            racks[turn.player].append(asKinds(last.tiles));
            points[turn.player] -= turn.points;
            turn.points = 0;
            turn.kind = 4;
            return true;
        }
        if (house == 'd' && !ended()) {
            turn(3, 0);
        } else if (house == 'f') {
            points[turn.player] += 5;
            prizes[turn.player] += 5;
        }
        return false;
    }

    int exchange() {
        state(goesOn());
        String wanted = asKinds(row);
        supported(!row.isEmpty() && takeFrom(new StringBuilder(racks[mover]), wanted) && bag.length() >= full);
        takeFrom(racks[mover], wanted);
        for (int k = 0; k < wanted.length(); k++) {
            racks[mover].append(drawOne());
        }
        putBack(wanted);
        turn(1, 0);
        row = "";
        return wanted.length();
    }

    int pass() {
        state(goesOn());
        turn(2, 0);
        return idle();
    }

    boolean isOver() {
        state(isBegun);
        return ended();
    }

    private int valuesOn(int player) {
        int sum = 0;
        for (char each : racks[player].toString().toCharArray()) {
            sum += each == '?' ? 0 : gameValues.get(each);
        }
        return sum;
    }

    int score(int player) {
        state(isBegun);
        argument(player == 0 || player == 1);
        int score = points[player];
        if (!ended()) {
            return score;
        }
        if (wentOut()) {
            score += turns.get(turns.size() - 1).player == player ? 2 * valuesOn(1 - player) : 0;
        } else {
            score -= valuesOn(player);
        }
        for (int second = told; second < spent[player]; second += 60) {
            score -= 10;
        }
        return score;
    }

    int spend(int player, int seconds) {
        state(goesOn());
        argument((player == 0 || player == 1) && seconds >= 0 && seconds <= 3600);
        spent[player] += seconds;
        return spent[player];
    }

    int time(int seconds) {
        argument(seconds >= 0 && seconds <= 3600);
        int before = told;
        told = seconds;
        return before;
    }

    private boolean isEnd() {
        return bag.length() == 0 && racks[0].length() + racks[1].length() <= 4;
    }

    /** Tries every play and every pass; gives up with TooMuch if that takes too long. */
    private int weigh(int player, int idle) {
        if (idle == 6) {
            return valuesOn(1 - player) - valuesOn(player);
        }
        StringBuilder text = new StringBuilder();
        text.append(player).append(' ').append(idle);
        for (char[] line : tiles) {
            text.append(line);
        }
        text.append(sorted(racks[0])).append('/').append(sorted(racks[1]));
        String key = text.toString();
        Integer before = known.get(key);
        if (before != null) {
            return before;
        }
        steps++;
        if (steps > 3000) {
            throw new TooMuch();
        }
        int best = -weigh(1 - player, idle + 1);
        for (Play play : list(player)) {
            best = Math.max(best, worthOf(play, player));
        }
        known.put(key, best);
        return best;
    }

    private static String sorted(CharSequence signs) {
        char[] all = signs.toString().toCharArray();
        Arrays.sort(all);
        return new String(all);
    }

    private int worthOf(Play play, int player) {
        String before = racks[player].toString();
        set(play.cells, play.tiles);
        takeFrom(racks[player], asKinds(play.tiles));
        int worth;
        try {
            if (racks[player].length() == 0) {
                worth = play.score + 2 * valuesOn(1 - player);
            } else {
                worth = play.score - weigh(1 - player, 0);
            }
        } finally {
            set(play.cells, null);
            racks[player] = new StringBuilder(before);
        }
        return worth;
    }

    int value() {
        state(goesOn());
        supported(isEnd());
        steps = 0;
        known = new HashMap<>();
        return weigh(mover, idle());
    }

    int solved() {
        state(goesOn());
        supported(isEnd());
        int value = value();
        List<Play> list = listNow();
        for (int k = 0; k < list.size(); k++) {
            if (worthOf(list.get(k), mover) == value) {
                return k;
            }
        }
        return -1;
    }

    private static BigInteger choose(int of, int taken) {
        BigInteger ways = BigInteger.ONE;
        if (of < taken) {
            return BigInteger.ZERO;
        }
        for (int k = 0; k < taken; k++) {
            ways = ways.multiply(BigInteger.valueOf(of - k)).divide(BigInteger.valueOf(k + 1));
        }
        return ways;
    }

    long holds(char letter, boolean isLower) {
        state(goesOn());
        argument(KINDS.indexOf(letter) >= 0);
        int held = racks[1 - mover].length();
        String unseen = racks[1 - mover].toString() + bag;
        BigInteger all = choose(unseen.length(), held);
        BigInteger with = all.subtract(choose(unseen.length() - number(unseen, letter), held));
        if (with.signum() == 0) {
            return isLower ? 1 : 0;
        }
        BigInteger common = with.gcd(all);
        return (isLower ? all : with).divide(common).longValueExact();
    }

    int turns() {
        state(isBegun);
        return turns.size();
    }

    private Turn turnAt(int at) {
        state(isBegun);
        index(at >= 0 && at < turns.size());
        return turns.get(at);
    }

    int turnAt(int at, char what) {
        Turn turn = turnAt(at);
        argument("psk".indexOf(what) >= 0);
        return what == 'p' ? turn.player : what == 's' ? turn.points : turn.kind;
    }

    private static int sheetOf(Turn turn) {
        return turn.told == null ? turn.points : turn.told;
    }

    int sheet(int at, int told) {
        Turn turn = turnAt(at);
        argument(told >= 0 && told <= 999);
        int before = sheetOf(turn);
        turn.told = told;
        return before;
    }

    int fault() {
        state(isBegun);
        for (Turn turn : turns) {
            if (sheetOf(turn) != turn.points) {
                return turns.indexOf(turn);
            }
        }
        throw new NoSuchElementException();
    }

    int sheetSum(int player) {
        state(isBegun);
        argument(player == 0 || player == 1);
        int sum = 0;
        for (Turn turn : turns) {
            sum += turn.player == player ? sheetOf(turn) : 0;
        }
        return sum;
    }

    int sit(int player, int person) {
        argument((player == 0 || player == 1) && person >= 0 && person <= 5);
        argument(seats[1 - player] != person);
        int before = seats[player];
        seats[player] = person;
        return before;
    }

    int rate() {
        state(isBegun && ended() && !isRated);
        int[] before = {ratings[seats[0]], ratings[seats[1]]};
        int[] change = new int[2];
        for (int player = 0; player < 2; player++) {
            int own = score(player);
            int other = score(1 - player);
            int got = own > other ? 100 : own < other ? 0 : 50;
            int due = 50 + (before[player] - before[1 - player]) / 8;
            due = due < 5 ? 5 : due > 95 ? 95 : due;
            change[player] = 20 * (got - due) / 100;
        }
        ratings[seats[0]] += change[0];
        ratings[seats[1]] += change[1];
        isRated = true;
        return change[0];
    }

    int rating(int person) {
        argument(person >= 0 && person <= 5);
        return ratings[person];
    }

    long checksum() {
        state(isBegun);
        long sum = 7;
        for (char[] line : tiles) {
            for (char sign : line) {
                sum = 31 * sum + sign;
            }
        }
        sum = 31 * sum + points[0];
        return 31 * sum + points[1];
    }

    float covered() {
        state(isBegun);
        int all = 0;
        int covered = 0;
        for (int y = 0; y < tiles.length; y++) {
            for (int x = 0; x < tiles[y].length; x++) {
                all += gameCells[y][x] == '#' ? 0 : 1;
                covered += tiles[y][x] == '.' ? 0 : 1;
            }
        }
        if (all == 0) {
            throw new ArithmeticException();
        }
        return (float) covered / (float) all;
    }

    double meanPoints() {
        state(isBegun);
        int sum = 0;
        int number = 0;
        for (Turn turn : turns) {
            if (turn.kind == 0) {
                sum += turn.points;
                number++;
            }
        }
        if (number == 0) {
            throw new ArithmeticException();
        }
        return (double) sum / (double) number;
    }

    boolean isSound() {
        return true;
    }
}
