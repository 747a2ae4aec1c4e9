import java.util.Arrays;
import java.util.NoSuchElementException;

/**
 * Letters on a board: a book of words by editions, a board, a set of tiles, and a game of two.
 *
 * Signs are held as codes: 0 none, 1 to 8 the letters a to h, 9 to 16 blanks that stand for a to h,
 * 17 a blank that stands for none. Counts of tiles have nine places: the letters, then blanks.
 */
public final class Lexirack {
    private static final int LETTERS = 8;
    private static final int BLANK = 8;
    private static final int KINDS = 9;
    private static final int FREE_BLANK = 17;

    private static final int MOST_TYPED = 9;
    private static final int MOST_WORDS = 80;
    private static final int LEAST_LETTERS = 2;
    private static final int MOST_LETTERS = 7;
    private static final int LAST_EDITION = 9;

    private static final int LEAST_SIDE = 3;
    private static final int MOST_SIDE = 9;
    private static final int WIDTH = 11;
    private static final int CELLS = 121;
    private static final int RIGHT = 1;
    private static final int BELOW = 11;
    private static final char WALL = '#';

    private static final int MOST_LAID = 7;
    private static final int FULL_PRIZE = 50;
    private static final int MOST_TURNS = 512;
    private static final int LAST_IDLE = 6;
    private static final int END_TILES = 4;
    private static final int MOST_SECONDS = 3600;

    private static final int PLAYED = 0;
    private static final int EXCHANGED = 1;
    private static final int PASSED = 2;
    private static final int LOST = 3;
    private static final int TAKEN_BACK = 4;

    private static final int PERSONS = 6;

    private final Row row;
    private final Book book;
    private final Kit kit;
    private final Game game;
    private final Finder finder;
    private final Solver solver;
    private final Plays list;
    private final int[] codes;
    private final int[] left;
    private final int[] ratings;
    private final int[] seats;
    private boolean isListed;
    private int time;

    public Lexirack() {
        row = new Row();
        book = new Book();
        kit = new Kit();
        game = new Game(kit);
        finder = new Finder(game.field, game.trial, book);
        solver = new Solver(game, finder);
        list = new Plays();
        codes = new int[MOST_LAID];
        left = new int[KINDS];
        ratings = new int[] {1000, 1000, 1000, 1000, 1000, 1000};
        seats = new int[] {0, 1};
        time = 600;
    }

    // The row and the book.

    public int type(char sign) throws IllegalArgumentException, IllegalStateException {
        int code = codeOf(sign);
        if (code == 0) {
            throw new IllegalArgumentException("no such sign");
        }
        if (row.count >= MOST_TYPED) {
            throw new IllegalStateException("the row is full");
        }
        row.add(code);
        return row.count;
    }

    public int wipe() {
        int had = row.count;
        row.clear();
        return had;
    }

    public int word(int first, int last) throws IllegalArgumentException, IllegalStateException {
        int pack = row.packedWord();
        if (pack == 0 || first < 0 || last > LAST_EDITION || last < first) {
            throw new IllegalArgumentException("no word, or no such editions");
        }
        if (book.find(pack) < 0 && book.count >= MOST_WORDS) {
            throw new IllegalStateException("the book is full");
        }
        book.enter(pack, first, last);
        row.clear();
        forget();
        return book.count;
    }

    public int strike() throws NoSuchElementException {
        int place = book.find(row.packedWord());
        if (place < 0) {
            throw new NoSuchElementException("no such word");
        }
        book.remove(place);
        row.clear();
        forget();
        return book.count;
    }

    public int edition(int edition) throws IllegalArgumentException {
        if (edition < 0 || edition > LAST_EDITION) {
            throw new IllegalArgumentException("no such edition");
        }
        int before = book.present;
        book.turnTo(edition);
        forget();
        return before;
    }

    public boolean isWord() {
        return book.has(row.packedWord());
    }

    public int words() {
        return book.presentCount();
    }

    public int nodes() {
        return book.freshGraph().leastCount();
    }

    public int hooks(boolean isInFront) {
        int hooks = 0;
        for (int letter = 0; letter < LETTERS; letter++) {
            if (book.has(row.packedWith(letter + 1, isInFront))) {
                hooks |= 1 << letter;
            }
        }
        return hooks;
    }

    public int anagrams(boolean isAll) {
        row.tally(left);
        return book.countFrom(left, isAll ? row.count : 0);
    }

    // The set of tiles.

    public int letter(char letter, int value, int count) throws IllegalArgumentException, IllegalStateException {
        int kind = kindOfSign(letter);
        boolean isValueMeant = kind != BLANK;
        if (kind < 0 || count < 0 || count > 12 || isValueMeant && (value < 0 || value > 10)) {
            throw new IllegalArgumentException("no such letter, value or count");
        }
        if (isGoing()) {
            throw new IllegalStateException("a game goes on");
        }
        int before = 100 * at(kit.values, kind) + at(kit.counts, kind);
        if (isValueMeant) {
            put(kit.values, kind, value);
        }
        put(kit.counts, kind, count);
        return before;
    }

    public int weight(char letter, int weight) throws IllegalArgumentException {
        int kind = kindOfSign(letter);
        if (kind < 0 || weight < -20 || weight > 20) {
            throw new IllegalArgumentException("no such letter or weight");
        }
        int before = at(kit.weights, kind);
        put(kit.weights, kind, weight);
        return before;
    }

    public int leave() {
        row.tally(left);
        return kit.worthOf(left);
    }

    // The board.

    public int board(int columns, int rows) throws IllegalArgumentException, IllegalStateException {
        if (columns < LEAST_SIDE || columns > MOST_SIDE || rows < LEAST_SIDE || rows > MOST_SIDE) {
            throw new IllegalArgumentException("no such board");
        }
        if (isGoing()) {
            throw new IllegalStateException("a game goes on");
        }
        kit.makeBoard(columns, rows);
        game.isBegun = false;
        forget();
        return columns * rows;
    }

    public char cell(int column, int row, char kind) throws IndexOutOfBoundsException, IllegalArgumentException, IllegalStateException {
        if (!kit.hasCell(column, row)) {
            throw new IndexOutOfBoundsException("no such cell");
        }
        if (!isCellKind(kind)) {
            throw new IllegalArgumentException("no such kind");
        }
        if (isGoing()) {
            throw new IllegalStateException("a game goes on");
        }
        return kit.changeKind(cellOf(column, row), kind);
    }

    public int start(int column, int row) throws IndexOutOfBoundsException, IllegalStateException {
        if (!kit.hasCell(column, row)) {
            throw new IndexOutOfBoundsException("no such cell");
        }
        if (isGoing()) {
            throw new IllegalStateException("a game goes on");
        }
        int before = 100 * columnOf(kit.start) + rowOf(kit.start);
        kit.start = cellOf(column, row);
        forget();
        return before;
    }

    // The game.

    public int begin(int full, char house, int seed) throws IllegalArgumentException {
        if (full < 1 || full > MOST_LAID) {
            throw new IllegalArgumentException("no such rack");
        }
        if (house != 'v' && house != 's' && house != 'd' && house != 'f') {
            throw new IllegalArgumentException("no such house");
        }
        game.open(full, house, seed);
        forget();
        return sum(game.bag);
    }

    public char tile(int column, int row) throws IndexOutOfBoundsException {
        if (!kit.hasCell(column, row)) {
            throw new IndexOutOfBoundsException("no such cell");
        }
        return game.isBegun ? signOf(game.field.tileAt(cellOf(column, row))) : '.';
    }

    public int rack(int player, char letter) throws IllegalStateException, IllegalArgumentException {
        if (!game.isBegun) {
            throw new IllegalStateException("no game");
        }
        int kind = kindOfSign(letter);
        if (!isPlayer(player) || kind < 0) {
            throw new IllegalArgumentException("no such player or letter");
        }
        return at(game.rackOf(player), kind);
    }

    public int bag() throws IllegalStateException {
        if (!game.isBegun) {
            throw new IllegalStateException("no game");
        }
        return sum(game.bag);
    }

    public int mover() throws IllegalStateException {
        if (!isGoing()) {
            throw new IllegalStateException("no game goes on");
        }
        return game.mover;
    }

    // The list.

    public int plays() throws IllegalStateException {
        if (!isGoing()) {
            throw new IllegalStateException("no game goes on");
        }
        makeList();
        return list.count;
    }

    public int playAt(int index, char what) throws IllegalStateException, NoSuchElementException, IllegalArgumentException {
        if (!isGoing()) {
            throw new IllegalStateException("no game goes on");
        }
        makeList();
        if (!list.has(index)) {
            throw new NoSuchElementException("no such play");
        }
        switch (what) {
            case 'x':
                return columnOf(list.cellAt(index));
            case 'y':
                return rowOf(list.cellAt(index));
            case 'd':
                return list.stepAt(index) == BELOW ? 1 : 0;
            case 's':
                return list.pointsAt(index);
            case 'n':
                return list.unpack(index, codes);
            case 'w':
                return countWords(index);
            default:
                throw new IllegalArgumentException("no such thing");
        }
    }

    public char playTile(int index, int place) throws IllegalStateException, NoSuchElementException {
        if (!isGoing()) {
            throw new IllegalStateException("no game goes on");
        }
        makeList();
        if (!list.has(index) || place < 0 || place >= list.unpack(index, codes)) {
            throw new NoSuchElementException("no such play or tile");
        }
        return signOf(at(codes, place));
    }

    public int bestByLeave() throws IllegalStateException, NoSuchElementException {
        if (!isGoing()) {
            throw new IllegalStateException("no game goes on");
        }
        makeList();
        if (list.count == 0) {
            throw new NoSuchElementException("no play");
        }
        int best = 0;
        int most = 0;
        for (int index = 0; index < list.count; index++) {
            int worth = list.pointsAt(index) + worthLeft(index);
            if (index == 0 || worth > most) {
                best = index;
                most = worth;
            }
        }
        return best;
    }

    // Turns.

    public int play(int column, int row, boolean isDown) throws IllegalStateException, IndexOutOfBoundsException, UnsupportedOperationException {
        if (!isGoing()) {
            throw new IllegalStateException("no game goes on");
        }
        if (!kit.hasCell(column, row)) {
            throw new IndexOutOfBoundsException("no such cell");
        }
        if (!canPlayRow(cellOf(column, row), isDown ? BELOW : RIGHT)) {
            throw new UnsupportedOperationException("this cannot be played");
        }
        this.row.clear();
        forget();
        return game.stand();
    }

    public int playListed(int index) throws IllegalStateException, NoSuchElementException {
        if (!isGoing()) {
            throw new IllegalStateException("no game goes on");
        }
        makeList();
        if (!list.has(index)) {
            throw new NoSuchElementException("no such play");
        }
        layListed(index);
        forget();
        return game.stand();
    }

    public boolean challenge() throws IllegalStateException, UnsupportedOperationException {
        if (!game.isBegun) {
            throw new IllegalStateException("no game");
        }
        if (!game.canChallenge()) {
            throw new UnsupportedOperationException("nothing to challenge");
        }
        forget();
        return game.judge(book.freshGraph());
    }

    public int exchange() throws IllegalStateException, UnsupportedOperationException {
        if (!isGoing()) {
            throw new IllegalStateException("no game goes on");
        }
        row.tally(left);
        if (row.count == 0 || !game.canExchange(left)) {
            throw new UnsupportedOperationException("this cannot be exchanged");
        }
        int count = row.count;
        game.swap(left, count);
        row.clear();
        forget();
        return count;
    }

    public int pass() throws IllegalStateException {
        if (!isGoing()) {
            throw new IllegalStateException("no game goes on");
        }
        game.endTurn(PASSED, 0);
        forget();
        return game.log.idle();
    }

    public boolean isOver() throws IllegalStateException {
        if (!game.isBegun) {
            throw new IllegalStateException("no game");
        }
        return game.isFinished();
    }

    public int score(int player) throws IllegalStateException, IllegalArgumentException {
        if (!game.isBegun) {
            throw new IllegalStateException("no game");
        }
        if (!isPlayer(player)) {
            throw new IllegalArgumentException("no such player");
        }
        return game.standing(player, time);
    }

    // Clocks.

    public int spend(int player, int seconds) throws IllegalStateException, IllegalArgumentException {
        if (!isGoing()) {
            throw new IllegalStateException("no game goes on");
        }
        if (!isPlayer(player) || seconds < 0 || seconds > MOST_SECONDS) {
            throw new IllegalArgumentException("no such player or time");
        }
        change(game.spent, player, seconds);
        return at(game.spent, player);
    }

    public int time(int seconds) throws IllegalArgumentException {
        if (seconds < 0 || seconds > MOST_SECONDS) {
            throw new IllegalArgumentException("no such time");
        }
        int before = time;
        time = seconds;
        return before;
    }

    // Ends, and what the other may hold.

    public int value() throws IllegalStateException, UnsupportedOperationException {
        if (!isGoing()) {
            throw new IllegalStateException("no game goes on");
        }
        if (!game.isEnd()) {
            throw new UnsupportedOperationException("no end yet");
        }
        return solver.solve();
    }

    public int solved() throws IllegalStateException, UnsupportedOperationException {
        if (!isGoing()) {
            throw new IllegalStateException("no game goes on");
        }
        if (!game.isEnd()) {
            throw new UnsupportedOperationException("no end yet");
        }
        solver.solve();
        return solver.choice;
    }

    public long holds(char letter, boolean isLower) throws IllegalStateException, IllegalArgumentException {
        if (!isGoing()) {
            throw new IllegalStateException("no game goes on");
        }
        int kind = kindOfSign(letter);
        if (kind < 0) {
            throw new IllegalArgumentException("no such letter");
        }
        int[] other = game.rackOf(1 - game.mover);
        int held = sum(other);
        int unseen = held + sum(game.bag);
        long all = ways(unseen, held);
        long with = all - ways(unseen - at(other, kind) - at(game.bag, kind), held);
        long shared = commonDivisor(with, all);
        if (shared <= 0) {
            return isLower ? 1 : 0;
        }
        return (isLower ? all : with) / shared;
    }

    // Turns that were, and the sheet.

    public int turns() throws IllegalStateException {
        if (!game.isBegun) {
            throw new IllegalStateException("no game");
        }
        return game.log.count;
    }

    public int turnAt(int turn, char what) throws IllegalStateException, IndexOutOfBoundsException, IllegalArgumentException {
        if (!game.isBegun) {
            throw new IllegalStateException("no game");
        }
        if (turn < 0 || turn >= game.log.count) {
            throw new IndexOutOfBoundsException("no such turn");
        }
        switch (what) {
            case 'p':
                return at(game.log.players, turn);
            case 's':
                return at(game.log.points, turn);
            case 'k':
                return at(game.log.kinds, turn);
            default:
                throw new IllegalArgumentException("no such thing");
        }
    }

    public int sheet(int turn, int points) throws IllegalStateException, IndexOutOfBoundsException, IllegalArgumentException {
        if (!game.isBegun) {
            throw new IllegalStateException("no game");
        }
        if (turn < 0 || turn >= game.log.count) {
            throw new IndexOutOfBoundsException("no such turn");
        }
        if (points < 0 || points > 999) {
            throw new IllegalArgumentException("no such points");
        }
        int before = game.log.onSheet(turn);
        put(game.log.told, turn, points);
        return before;
    }

    public int fault() throws IllegalStateException, NoSuchElementException {
        if (!game.isBegun) {
            throw new IllegalStateException("no game");
        }
        int turn = game.log.firstFault();
        if (turn < 0) {
            throw new NoSuchElementException("no fault");
        }
        return turn;
    }

    public int sheetSum(int player) throws IllegalStateException, IllegalArgumentException {
        if (!game.isBegun) {
            throw new IllegalStateException("no game");
        }
        if (!isPlayer(player)) {
            throw new IllegalArgumentException("no such player");
        }
        return game.log.sumOnSheet(player);
    }

    // Ratings.

    public int sit(int player, int person) throws IllegalArgumentException {
        if (!isPlayer(player) || person < 0 || person >= PERSONS || at(seats, 1 - player) == person) {
            throw new IllegalArgumentException("no such player or person, or it sits already");
        }
        int before = at(seats, player);
        put(seats, player, person);
        return before;
    }

    public int rate() throws IllegalStateException {
        if (!game.isBegun || !game.isFinished() || game.isRated) {
            throw new IllegalStateException("nothing to rate");
        }
        int first = at(seats, 0);
        int second = at(seats, 1);
        int lead = at(ratings, first) - at(ratings, second);
        int more = Integer.compare(game.standing(0, time), game.standing(1, time));
        int rise = riseFor(50 + 50 * more, lead);
        change(ratings, first, rise);
        change(ratings, second, riseFor(50 - 50 * more, -lead));
        game.isRated = true;
        return rise;
    }

    public int rating(int person) throws IllegalArgumentException {
        if (person < 0 || person >= PERSONS) {
            throw new IllegalArgumentException("no such person");
        }
        return at(ratings, person);
    }

    // Sums and checks over the game.

    public long checksum() throws IllegalStateException {
        if (!game.isBegun) {
            throw new IllegalStateException("no game");
        }
        long sum = 7;
        for (int y = 0; y < kit.rows; y++) {
            for (int x = 0; x < kit.columns; x++) {
                sum = 31 * sum + signOf(game.field.tileAt(cellOf(x, y)));
            }
        }
        sum = 31 * sum + at(game.points, 0);
        return 31 * sum + at(game.points, 1);
    }

    public float covered() throws IllegalStateException, ArithmeticException {
        if (!game.isBegun) {
            throw new IllegalStateException("no game");
        }
        int cells = game.field.countCells();
        if (cells == 0) {
            throw new ArithmeticException("walls alone");
        }
        return (float) game.field.count / (float) cells;
    }

    public double meanPoints() throws IllegalStateException, ArithmeticException {
        if (!game.isBegun) {
            throw new IllegalStateException("no game");
        }
        int stands = game.log.countPlays();
        if (stands == 0) {
            throw new ArithmeticException("no play stands");
        }
        return (double) sum(game.log.points) / (double) stands;
    }

    public boolean isSound() {
        if (!game.isBegun) {
            return true;
        }
        if (!game.hasItsTiles() || !game.hasItsPoints()) {
            return false;
        }
        if (game.isFinished()) {
            return true;
        }
        makeList();
        return isListSound();
    }

    // What the face shares.

    private boolean isGoing() {
        return game.isBegun && !game.isFinished();
    }

    /** For calls that change what the list and the value of the position are made from. */
    private void forget() {
        isListed = false;
        solver.isSolved = false;
    }

    private void makeList() {
        if (!isListed) {
            finder.find(list, game.rackOf(game.mover), kit.start);
            list.sort();
            isListed = true;
        }
    }

    private void layListed(int index) {
        int count = list.unpack(index, codes);
        game.trial.lay(list.cellAt(index), list.stepAt(index), codes, count);
    }

    private int countWords(int index) {
        layListed(index);
        int count = game.trial.countWords();
        game.trial.lift();
        return count;
    }

    private int worthLeft(int index) {
        int[] rack = game.rackOf(game.mover);
        for (int kind = 0; kind < left.length; kind++) {
            left[kind] = at(rack, kind);
        }
        int count = list.unpack(index, codes);
        for (int place = 0; place < count; place++) {
            change(left, kindOf(at(codes, place)), -1);
        }
        return kit.worthOf(left);
    }

    /** Leaves the tiles of the row on the board if they can be played there. */
    private boolean canPlayRow(int cell, int step) {
        if (!game.canLay(cell, step, row.codes, row.count)) {
            return false;
        }
        if (game.house == 'v' && !game.trial.isLawful(book.freshGraph())) {
            game.trial.lift();
            return false;
        }
        return true;
    }

    private boolean isListSound() {
        for (int index = 0; index < list.count; index++) {
            int count = list.unpack(index, codes);
            if (!game.canLay(list.cellAt(index), list.stepAt(index), codes, count)) {
                return false;
            }
            boolean isLawful = game.trial.isLawful(book.freshGraph());
            game.trial.lift();
            if (!isLawful) {
                return false;
            }
        }
        return true;
    }

    private static boolean isPlayer(int player) {
        return player == 0 || player == 1;
    }

    private static boolean isCellKind(char kind) {
        return kind == '.' || kind == 'd' || kind == 't' || kind == 'D' || kind == 'T' || kind == WALL;
    }

    private static int riseFor(int got, int lead) {
        int due = Math.max(5, Math.min(95, 50 + lead / 8));
        return 20 * (got - due) / 100;
    }

    /** In how many ways so many can be taken of these; no step's product passes 108 over 6 times 102. */
    private static long ways(int of, int taken) {
        long ways = 1;
        for (int k = 1; k <= taken && k <= MOST_LAID; k++) {
            ways = ways * Math.max(0, of - taken + k) / k;
        }
        return ways;
    }

    /** 0 if the first is 0, since such a fraction has a form of its own. */
    private static long commonDivisor(long first, long second) {
        if (first <= 0) {
            return 0;
        }
        long a = first;
        long b = second;
        for (int step = 0; step < 1000 && b != 0; step++) {
            long rest = a % b;
            a = b;
            b = rest;
        }
        return a;
    }

    // Signs, cells and rows of numbers. An index beyond a row reads 0 and writes nothing.

    private static int codeOf(char sign) {
        if (sign >= 'a' && sign <= 'h') {
            return sign - 'a' + 1;
        }
        if (sign >= 'A' && sign <= 'H') {
            return sign - 'A' + 1 + LETTERS;
        }
        return sign == '?' ? FREE_BLANK : 0;
    }

    private static char signOf(int code) {
        if (code >= 1 && code <= LETTERS) {
            return (char) ('a' + code - 1);
        }
        if (code > LETTERS && code < FREE_BLANK) {
            return (char) ('A' + code - 1 - LETTERS);
        }
        return '.';
    }

    private static int letterOf(int code) {
        return (code - 1) & 7;
    }

    private static int kindOf(int code) {
        return code > LETTERS ? BLANK : code - 1;
    }

    private static int kindOfSign(char letter) {
        if (letter >= 'a' && letter <= 'h') {
            return letter - 'a';
        }
        return letter == '?' ? BLANK : -1;
    }

    private static int cellOf(int column, int row) {
        return (row + 1) * WIDTH + column + 1;
    }

    private static int columnOf(int cell) {
        return cell % WIDTH - 1;
    }

    private static int rowOf(int cell) {
        return cell / WIDTH - 1;
    }

    private static int at(int[] row, int place) {
        return place >= 0 && place < row.length ? row[place] : 0;
    }

    private static void put(int[] row, int place, int number) {
        if (place >= 0 && place < row.length) {
            row[place] = number;
        }
    }

    private static void change(int[] row, int place, int by) {
        if (place >= 0 && place < row.length) {
            row[place] += by;
        }
    }

    private static int sum(int[] row) {
        int sum = 0;
        for (int place = 0; place < row.length; place++) {
            sum += row[place];
        }
        return sum;
    }

    /** The signs typed. */
    private static final class Row {
        final int[] codes = new int[MOST_TYPED];
        int count;

        void add(int code) {
            if (count < codes.length) {
                codes[count] = code;
                count++;
            }
        }

        void clear() {
            count = 0;
        }

        /** Four bits a letter, the last one lowest; 0 if it cannot be a word. */
        int packedWord() {
            return count < LEAST_LETTERS || count > MOST_LETTERS ? 0 : packed();
        }

        int packedWith(int code, boolean isInFront) {
            if (count < LEAST_LETTERS - 1 || count > MOST_LETTERS - 1) {
                return 0;
            }
            int pack = packed();
            if (pack == 0) {
                return 0;
            }
            return isInFront ? code << 4 * count | pack : pack << 4 | code;
        }

        void tally(int[] counts) {
            for (int kind = 0; kind < counts.length; kind++) {
                counts[kind] = 0;
            }
            for (int place = 0; place < count && place < codes.length; place++) {
                change(counts, kindOf(codes[place]), 1);
            }
        }

        private int packed() {
            int pack = 0;
            for (int place = 0; place < count && place < codes.length; place++) {
                if (codes[place] > LETTERS) {
                    return 0;
                }
                pack = pack << 4 | codes[place];
            }
            return pack;
        }
    }

    /** Words with their editions. */
    private static final class Book {
        final int[] packs = new int[MOST_WORDS];
        final int[] firsts = new int[MOST_WORDS];
        final int[] lasts = new int[MOST_WORDS];
        final int[] needs = new int[KINDS];
        final Graph graph = new Graph();
        int count;
        int present;
        boolean isGraphFresh;

        int find(int pack) {
            for (int place = 0; place < count && place < packs.length; place++) {
                if (packs[place] == pack) {
                    return place;
                }
            }
            return -1;
        }

        void enter(int pack, int first, int last) {
            int place = find(pack);
            if (place < 0) {
                place = count;
                count = Math.min(count + 1, MOST_WORDS);
            }
            put(packs, place, pack);
            put(firsts, place, first);
            put(lasts, place, last);
            isGraphFresh = false;
        }

        /** The last word takes the place, as the order of the book is of no meaning. */
        void remove(int place) {
            int end = count - 1;
            put(packs, place, at(packs, end));
            put(firsts, place, at(firsts, end));
            put(lasts, place, at(lasts, end));
            count = Math.max(0, end);
            isGraphFresh = false;
        }

        void turnTo(int edition) {
            present = edition;
            isGraphFresh = false;
        }

        boolean isPresent(int place) {
            return at(firsts, place) <= present && present <= at(lasts, place);
        }

        boolean has(int pack) {
            int place = find(pack);
            return place >= 0 && isPresent(place);
        }

        int presentCount() {
            int present = 0;
            for (int place = 0; place < count; place++) {
                if (isPresent(place)) {
                    present++;
                }
            }
            return present;
        }

        Graph freshGraph() {
            if (!isGraphFresh) {
                graph.clear();
                for (int place = 0; place < count; place++) {
                    if (isPresent(place)) {
                        graph.add(at(packs, place));
                    }
                }
                isGraphFresh = true;
            }
            return graph;
        }

        /** How many words the tiles make, of the told length alone if it is not 0. */
        int countFrom(int[] tiles, int length) {
            int words = 0;
            for (int place = 0; place < count; place++) {
                if (isPresent(place) && canMake(at(packs, place), tiles, length)) {
                    words++;
                }
            }
            return words;
        }

        private boolean canMake(int pack, int[] tiles, int length) {
            for (int kind = 0; kind < needs.length; kind++) {
                needs[kind] = 0;
            }
            int letters = 0;
            for (int rest = pack; rest != 0 && letters < MOST_LETTERS; rest >>>= 4) {
                change(needs, (rest & 15) - 1, 1);
                letters++;
            }
            int blanks = 0;
            for (int letter = 0; letter < LETTERS; letter++) {
                blanks += Math.max(0, at(needs, letter) - at(tiles, letter));
            }
            return blanks <= at(tiles, BLANK) && (length == 0 || letters == length);
        }
    }

    /** The words of the present edition as a tree; what follows alike is counted as one when asked for. */
    private static final class Graph {
        private static final int NODES = MOST_WORDS * MOST_LETTERS + 1;
        private static final int HEADS = 256;

        private final int[] next = new int[NODES * LETTERS];
        private final boolean[] isWhole = new boolean[NODES];
        private final int[] like = new int[NODES];
        private final int[] behind = new int[NODES];
        private final int[] heads = new int[HEADS];
        private int count = 1;

        void clear() {
            count = 0;
            addNode();
        }

        void add(int pack) {
            int node = 0;
            for (int shift = 4 * (MOST_LETTERS - 1); shift >= 0; shift -= 4) {
                int code = pack >>> shift & 15;
                if (code != 0) {
                    int step = node * LETTERS + code - 1;
                    if (at(next, step) == 0) {
                        put(next, step, addNode());
                    }
                    node = at(next, step);
                }
            }
            if (node > 0 && node < isWhole.length) {
                isWhole[node] = true;
            }
        }

        /** 0 if no word goes on so, since nothing leads to the first node. */
        int follow(int node, int letter) {
            int step = node * LETTERS + letter;
            return step >= 0 && step < next.length ? next[step] : 0;
        }

        boolean isWordAt(int node) {
            return node > 0 && node < isWhole.length && isWhole[node];
        }

        int leastCount() {
            if (count <= 1) {
                return 0;
            }
            for (int head = 0; head < heads.length; head++) {
                heads[head] = 0;
            }
            int unlike = 0;
            // A node is made after the ones that lead to it, so that backwards all that follow are known.
            for (int node = count - 1; node >= 0; node--) {
                int head = hash(node);
                int same = findLike(node, at(heads, head));
                if (same == 0) {
                    unlike++;
                    put(behind, node, at(heads, head));
                    put(heads, head, node + 1);
                    same = node + 1;
                }
                put(like, node, same);
            }
            return unlike;
        }

        private int addNode() {
            if (count >= NODES) {
                return 0;
            }
            int node = count;
            count++;
            for (int letter = 0; letter < LETTERS; letter++) {
                put(next, node * LETTERS + letter, 0);
            }
            if (node >= 0 && node < isWhole.length) {
                isWhole[node] = false;
            }
            return node;
        }

        /** Which nodes are alike in what follows by a letter: a number of their set, 0 for none. */
        private int likeAfter(int node, int letter) {
            int after = follow(node, letter);
            return after == 0 ? 0 : at(like, after);
        }

        private int hash(int node) {
            int hash = isWordAt(node) ? 1 : 0;
            for (int letter = 0; letter < LETTERS; letter++) {
                hash = 31 * hash + likeAfter(node, letter);
            }
            return (hash ^ hash >>> 8 ^ hash >>> 16) & HEADS - 1;
        }

        private int findLike(int node, int head) {
            int other = head;
            for (int step = 0; step < NODES && other > 0; step++) {
                if (isAlike(node, other - 1)) {
                    return other;
                }
                other = at(behind, other - 1);
            }
            return 0;
        }

        private boolean isAlike(int node, int other) {
            if (isWordAt(node) != isWordAt(other)) {
                return false;
            }
            for (int letter = 0; letter < LETTERS; letter++) {
                if (likeAfter(node, letter) != likeAfter(other, letter)) {
                    return false;
                }
            }
            return true;
        }
    }

    /** What the next game is made from. The cells have a border of walls, so that no step leaves them. */
    private static final class Kit {
        final char[] kinds = new char[CELLS];
        final int[] values = new int[] {1, 1, 1, 1, 1, 1, 1, 1, 0};
        final int[] counts = new int[] {4, 4, 4, 4, 4, 4, 4, 4, 2};
        final int[] weights = new int[KINDS];
        int columns;
        int rows;
        int start;

        Kit() {
            makeBoard(5, 5);
        }

        void makeBoard(int columns, int rows) {
            this.columns = columns;
            this.rows = rows;
            for (int cell = 0; cell < kinds.length; cell++) {
                kinds[cell] = hasCell(columnOf(cell), rowOf(cell)) ? '.' : WALL;
            }
            start = cellOf(columns / 2, rows / 2);
        }

        boolean hasCell(int column, int row) {
            return column >= 0 && column < columns && row >= 0 && row < rows;
        }

        char changeKind(int cell, char kind) {
            if (cell < 0 || cell >= kinds.length) {
                return WALL;
            }
            char before = kinds[cell];
            kinds[cell] = kind;
            return before;
        }

        int worthOf(int[] tiles) {
            int worth = 0;
            int vowels = 0;
            for (int kind = 0; kind < tiles.length; kind++) {
                int count = tiles[kind];
                worth += at(weights, kind) * count - 5 * Math.max(0, count - 1);
                if (kind == 0 || kind == 4) {
                    vowels += count;
                } else if (kind != BLANK) {
                    vowels -= count;
                }
            }
            return worth - 3 * Math.abs(vowels);
        }
    }

    /** The board of a game, with the premiums and the values that the game keeps. */
    private static final class Field {
        final char[] kinds = new char[CELLS];
        final int[] tiles = new int[CELLS];
        final boolean[] isFresh = new boolean[CELLS];
        final int[] values = new int[KINDS];
        int full;
        int count;

        void open(Kit kit, int full) {
            for (int cell = 0; cell < CELLS; cell++) {
                if (cell < kinds.length && cell < kit.kinds.length) {
                    kinds[cell] = kit.kinds[cell];
                }
                setTile(cell, 0, false);
            }
            for (int kind = 0; kind < values.length; kind++) {
                values[kind] = at(kit.values, kind);
            }
            this.full = full;
            count = 0;
        }

        void setTile(int cell, int code, boolean isOfPlay) {
            if (cell >= 0 && cell < tiles.length && cell < isFresh.length) {
                count += (code == 0 ? 0 : 1) - (tiles[cell] == 0 ? 0 : 1);
                tiles[cell] = code;
                isFresh[cell] = isOfPlay;
            }
        }

        int tileAt(int cell) {
            return cell >= 0 && cell < tiles.length ? tiles[cell] : 0;
        }

        boolean isWall(int cell) {
            return cell < 0 || cell >= kinds.length || kinds[cell] == WALL;
        }

        /** The first free cell from this one on, beyond tiles; -1 if a wall comes first. */
        int freeFrom(int cell, int step) {
            int free = cell;
            for (int tried = 0; tried <= MOST_SIDE; tried++) {
                if (isWall(free)) {
                    return -1;
                }
                if (tileAt(free) == 0) {
                    return free;
                }
                free += step;
            }
            return -1;
        }

        int firstOf(int cell, int step) {
            int first = cell;
            for (int tried = 0; tried < MOST_SIDE; tried++) {
                int before = first - step;
                if (before < 0 || before >= tiles.length || tiles[before] == 0) {
                    return first;
                }
                first = before;
            }
            return first;
        }

        int lengthAt(int cell, int step) {
            int from = firstOf(cell, step);
            int length = 0;
            while (length < MOST_SIDE && tileAt(from + length * step) != 0) {
                length++;
            }
            return length;
        }

        /** Whether the row through a cell is a word; a tile alone breaks no rule. */
        boolean isRowLawful(int cell, int step, Graph graph) {
            int first = firstOf(cell, step);
            return tileAt(first + step) == 0 || graph.isWordAt(lead(0, first, step, graph));
        }

        /** Where the tiles from a cell on, as far as they lie side by side, lead from a node; 0 if no word goes on so. */
        int lead(int node, int from, int step, Graph graph) {
            int led = node;
            int cell = from;
            for (int length = 0; length < MOST_SIDE && tileAt(cell) != 0; length++) {
                led = graph.follow(led, letterOf(tileAt(cell)));
                if (led == 0) {
                    return 0;
                }
                cell += step;
            }
            return led;
        }

        /** What the row through a cell counts; 0 if it is a tile alone. */
        int pointsAt(int cell, int step) {
            int at = firstOf(cell, step);
            int sum = 0;
            int times = 1;
            int length = 0;
            while (length < MOST_SIDE && at >= 0 && at < tiles.length && tiles[at] != 0) {
                int kind = tiles[at] - 1;
                int value = kind >= 0 && kind < values.length ? values[kind] : 0;
                char premium = at < isFresh.length && isFresh[at] && at < kinds.length ? kinds[at] : '.';
                sum += premium == 'd' ? 2 * value : premium == 't' ? 3 * value : value;
                times *= premium == 'D' ? 2 : premium == 'T' ? 3 : 1;
                length++;
                at += step;
            }
            return length < LEAST_LETTERS ? 0 : sum * times;
        }

        int countCells() {
            int cells = 0;
            for (int cell = 0; cell < kinds.length; cell++) {
                if (kinds[cell] != WALL) {
                    cells++;
                }
            }
            return cells;
        }
    }

    /** A play whose tiles lie on the field. */
    private static final class Lay {
        final Field field;
        final int[] cells = new int[MOST_LAID];
        int count;
        int step = RIGHT;

        Lay(Field field) {
            this.field = field;
        }

        /** Lays tiles from a cell on; lays none if they do not all fit. */
        boolean lay(int first, int step, int[] codes, int wanted) {
            count = 0;
            this.step = step;
            if (wanted < 1 || wanted > cells.length || wanted > codes.length || field.tileAt(first) != 0) {
                return false;
            }
            int cell = first;
            for (int place = 0; place < wanted; place++) {
                cell = field.freeFrom(cell, step);
                if (cell < 0) {
                    lift();
                    return false;
                }
                push(cell, at(codes, place));
            }
            return true;
        }

        void push(int cell, int code) {
            if (count < cells.length) {
                cells[count] = cell;
                count++;
                field.setTile(cell, code, true);
            }
        }

        void pop() {
            if (count > 0) {
                count--;
                field.setTile(at(cells, count), 0, false);
            }
        }

        void lift() {
            for (int place = 0; place < cells.length && count > 0; place++) {
                pop();
            }
        }

        /** The tiles become tiles that lie there, so that no premium counts for them again. */
        void settle() {
            for (int place = 0; place < count; place++) {
                int cell = at(cells, place);
                field.setTile(cell, field.tileAt(cell), false);
            }
        }

        void copy(Lay other) {
            count = other.count;
            step = other.step;
            for (int place = 0; place < cells.length; place++) {
                cells[place] = at(other.cells, place);
            }
        }

        int tileAt(int place) {
            return field.tileAt(at(cells, place));
        }

        /** Changes the counts of tiles by these tiles, each by as much as told. */
        void changeCounts(int[] counts, int by) {
            for (int place = 0; place < count; place++) {
                change(counts, kindOf(tileAt(place)), by);
            }
        }

        int across() {
            return RIGHT + BELOW - step;
        }

        int countWords() {
            int words = field.lengthAt(at(cells, 0), step) < LEAST_LETTERS ? 0 : 1;
            for (int place = 0; place < count; place++) {
                if (field.lengthAt(at(cells, place), across()) >= LEAST_LETTERS) {
                    words++;
                }
            }
            return words;
        }

        boolean isLawful(Graph graph) {
            if (!field.isRowLawful(at(cells, 0), step, graph)) {
                return false;
            }
            for (int place = 0; place < count; place++) {
                if (!field.isRowLawful(at(cells, place), across(), graph)) {
                    return false;
                }
            }
            return true;
        }

        int points() {
            int points = field.pointsAt(at(cells, 0), step);
            for (int place = 0; place < count; place++) {
                points += field.pointsAt(at(cells, place), across());
            }
            return count == field.full ? points + FULL_PRIZE : points;
        }

        /** Whether it has a word and covers the start, or is beside a tile that lay there. */
        boolean isJoined(int start) {
            if (countWords() == 0) {
                return false;
            }
            boolean isFirst = field.count == count;
            for (int place = 0; place < count; place++) {
                int cell = at(cells, place);
                if (isFirst ? cell == start : isBesideOld(cell)) {
                    return true;
                }
            }
            return false;
        }

        private boolean isBesideOld(int cell) {
            return isOld(cell - RIGHT) || isOld(cell + RIGHT) || isOld(cell - BELOW) || isOld(cell + BELOW);
        }

        private boolean isOld(int cell) {
            if (field.tileAt(cell) == 0) {
                return false;
            }
            for (int place = 0; place < count && place < cells.length; place++) {
                if (cells[place] == cell) {
                    return false;
                }
            }
            return true;
        }
    }

    /** Plays, each packed into a number, so that the order of the numbers is the order of the list. */
    private static final class Plays {
        private static final int MOST_POINTS = (1 << 18) - 1;
        private static final int MOST_PLAYS = 1 << 19;

        private long[] keys = new long[64];
        int count;

        void clear() {
            count = 0;
        }

        /** Lawful words have seven letters at most, so that 18 bits hold the points of any play. */
        void add(int points, int cell, int step, int[] codes, int tiles) {
            if (count >= keys.length && keys.length < MOST_PLAYS) {
                keys = Arrays.copyOf(keys, 2 * keys.length);
            }
            if (count >= keys.length) {
                return;
            }
            long key = MOST_POINTS - points;
            key = key << 7 | cell;
            key = key << 1 | (step == BELOW ? 1 : 0);
            for (int place = 0; place < MOST_LAID; place++) {
                key = key << 5 | (place < tiles ? at(codes, place) : 0);
            }
            keys[count] = key;
            count++;
        }

        boolean has(int index) {
            return index >= 0 && index < count;
        }

        int pointsAt(int index) {
            return MOST_POINTS - (int) (keyAt(index) >>> 43);
        }

        int cellAt(int index) {
            return (int) (keyAt(index) >>> 36) & 127;
        }

        int stepAt(int index) {
            return (keyAt(index) >>> 35 & 1) == 1 ? BELOW : RIGHT;
        }

        /** Tells the codes of the tiles, and returns how many there are. */
        int unpack(int index, int[] codes) {
            long key = keyAt(index);
            int tiles = 0;
            for (int place = 0; place < MOST_LAID; place++) {
                int code = (int) (key >>> 5 * (MOST_LAID - 1 - place)) & 31;
                put(codes, place, code);
                if (code != 0) {
                    tiles++;
                }
            }
            return tiles;
        }

        void sort() {
            for (int root = count / 2 - 1; root >= 0; root--) {
                sink(root, count);
            }
            for (int end = count - 1; end > 0; end--) {
                trade(0, end);
                sink(0, end);
            }
        }

        private void sink(int from, int end) {
            int root = from;
            for (int level = 0; level < 32; level++) {
                int child = 2 * root + 1;
                if (child >= end) {
                    return;
                }
                if (child + 1 < end && keyAt(child + 1) > keyAt(child)) {
                    child++;
                }
                if (keyAt(child) <= keyAt(root)) {
                    return;
                }
                trade(root, child);
                root = child;
            }
        }

        private void trade(int one, int other) {
            if (one >= 0 && one < keys.length && other >= 0 && other < keys.length) {
                long key = keys[one];
                keys[one] = keys[other];
                keys[other] = key;
            }
        }

        private long keyAt(int index) {
            return index >= 0 && index < keys.length ? keys[index] : 0;
        }
    }

    /** Finds all lawful plays of a rack: along each line, letter by letter as words go on. */
    private static final class Finder {
        private static final int OUT_OF_REACH = 100;

        private final Field field;
        private final Lay lay;
        private final Book book;
        private final Graph graph;
        private final boolean[] isJoint = new boolean[CELLS];
        private final int[] reach = new int[CELLS];
        private final int[] masks = new int[CELLS];
        private final int[] codes = new int[MOST_LAID];
        private Plays out;
        private int[] rack;
        private int tiles;

        Finder(Field field, Lay lay, Book book) {
            this.field = field;
            this.lay = lay;
            this.book = book;
            graph = book.graph;
            out = new Plays();
            rack = new int[KINDS];
        }

        void find(Plays out, int[] rack, int start) {
            this.out = out;
            this.rack = rack;
            book.freshGraph();
            out.clear();
            tiles = Math.min(sum(rack), MOST_LAID);
            if (tiles == 0) {
                return;
            }
            markJoints(start);
            for (int step = RIGHT; step <= BELOW; step += BELOW - RIGHT) {
                lay.lift();
                lay.step = step;
                Arrays.fill(masks, -1);
                markReach();
                for (int cell = 0; cell < CELLS; cell++) {
                    if (at(reach, cell) <= tiles && field.tileAt(cell - step) == 0) {
                        walk(cell, 0, false, 0);
                    }
                }
            }
        }

        private void markJoints(int start) {
            for (int cell = 0; cell < isJoint.length; cell++) {
                isJoint[cell] = false;
            }
            if (field.count == 0) {
                markJoint(start);
                return;
            }
            for (int cell = 0; cell < CELLS; cell++) {
                if (field.tileAt(cell) != 0) {
                    markJoint(cell - RIGHT);
                    markJoint(cell + RIGHT);
                    markJoint(cell - BELOW);
                    markJoint(cell + BELOW);
                }
            }
        }

        private void markJoint(int cell) {
            if (cell >= 0 && cell < isJoint.length) {
                isJoint[cell] = true;
            }
        }

        private boolean isJointAt(int cell) {
            return cell >= 0 && cell < isJoint.length && isJoint[cell];
        }

        /** How many tiles a play from each cell on lays until one of them joins what lies. */
        private void markReach() {
            for (int cell = CELLS - 1; cell >= 0; cell--) {
                int needed = OUT_OF_REACH;
                if (!field.isWall(cell)) {
                    int behind = at(reach, cell + lay.step);
                    needed = field.tileAt(cell) != 0 ? behind : isJointAt(cell) ? 1 : 1 + behind;
                }
                put(reach, cell, needed);
            }
        }

        /** What lies before the cell leads to the node; goes on with the cell. */
        private void walk(int cell, int node, boolean isJoined, int length) {
            int code = field.tileAt(cell);
            if (code == 0 && isJoined && graph.isWordAt(node) && !isListedAcross()) {
                out.add(lay.points(), at(lay.cells, 0), lay.step, codes, lay.count);
            }
            if (length >= MOST_LETTERS || field.isWall(cell) || code == 0 && lay.count >= tiles) {
                return;
            }
            if (code != 0) {
                int next = graph.follow(node, letterOf(code));
                if (next != 0) {
                    walk(cell + lay.step, next, isJoined, length + 1);
                }
                return;
            }
            boolean isJoinedNow = isJoined || isJointAt(cell);
            int mask = maskAt(cell);
            boolean hasBlank = at(rack, BLANK) > 0;
            for (int letter = 0; letter < LETTERS; letter++) {
                boolean hasLetter = at(rack, letter) > 0;
                int next = (mask >> letter & 1) == 1 && (hasLetter || hasBlank) ? graph.follow(node, letter) : 0;
                if (next != 0 && hasLetter) {
                    tryTile(cell, letter + 1, next, isJoinedNow, length);
                }
                if (next != 0 && hasBlank) {
                    tryTile(cell, letter + 1 + LETTERS, next, isJoinedNow, length);
                }
            }
        }

        private void tryTile(int cell, int code, int node, boolean isJoined, int length) {
            int kind = kindOf(code);
            change(rack, kind, -1);
            put(codes, lay.count, code);
            lay.push(cell, code);
            walk(cell + lay.step, node, isJoined, length + 1);
            lay.pop();
            change(rack, kind, 1);
        }

        /** A play of one tile with a word to the right is listed as one to the right. */
        private boolean isListedAcross() {
            int cell = at(lay.cells, 0);
            return lay.count == 1 && lay.step == BELOW
                && (field.tileAt(cell - RIGHT) != 0 || field.tileAt(cell + RIGHT) != 0);
        }

        /** The letters that the words across a cell allow, a bit each; found when first asked for. */
        private int maskAt(int cell) {
            int mask = at(masks, cell);
            if (mask >= 0) {
                return mask;
            }
            int across = lay.across();
            boolean isFirst = field.tileAt(cell - across) == 0;
            if (isFirst && field.tileAt(cell + across) == 0) {
                return (1 << LETTERS) - 1;
            }
            int node = isFirst ? 0 : field.lead(0, field.firstOf(cell, across), across, graph);
            mask = 0;
            for (int letter = 0; letter < LETTERS && (isFirst || node != 0); letter++) {
                int next = graph.follow(node, letter);
                if (next != 0 && graph.isWordAt(field.lead(next, cell + across, across, graph))) {
                    mask |= 1 << letter;
                }
            }
            put(masks, cell, mask);
            return mask;
        }
    }

    /** Solves ends. */
    private static final class Solver {
        private static final int LEVELS = END_TILES + 1;
        private static final int FAR = 1000000000;

        private final Game game;
        private final Finder finder;
        private final Plays[] lists = new Plays[LEVELS];
        private final Lay[] lays = new Lay[LEVELS];
        private final int[] codes = new int[MOST_LAID];
        private int picked;
        private int worth;
        int choice;
        boolean isSolved;

        Solver(Game game, Finder finder) {
            this.game = game;
            this.finder = finder;
            for (int level = 0; level < LEVELS; level++) {
                lists[level] = new Plays();
                lays[level] = new Lay(game.field);
            }
        }

        int solve() {
            if (!isSolved) {
                choice = -1;
                worth = weigh(game.mover, game.log.idle(), -FAR, FAR, 0);
                isSolved = true;
            }
            return worth;
        }

        /**
         * What a player who moves gets more than the other one, exact between the bounds.
         * Passes change nothing but their number, so that behind two of them the same choice comes again. A pass is
         * worth the end by passes, or less if the other one has a better play, and no longer row of passes tells more.
         */
        private int weigh(int player, int idle, int low, int high, int level) {
            int best = findBest(player, low, high, level);
            if (level == 0) {
                choice = picked;
            }
            if (best >= high) {
                return best;
            }
            int passed = game.worthOf(1 - player) - game.worthOf(player);
            int least = Math.max(low, best);
            if (passed <= least) {
                return Math.max(best, passed);
            }
            if (idle + 1 < LAST_IDLE) {
                passed = Math.min(passed, -findBest(1 - player, -Math.min(high, passed), -least, level));
            }
            if (level == 0 && passed > best) {
                choice = -1;
            }
            return Math.max(best, passed);
        }

        /** The greatest worth of a play, exact between the bounds; far below if there is none. */
        private int findBest(int player, int low, int high, int level) {
            int best = -FAR;
            int first = -1;
            picked = -1;
            Plays list = level >= 0 && level < lists.length ? lists[level] : null;
            if (list == null) {
                return best;
            }
            int[] rack = game.rackOf(player);
            int held = sum(rack);
            int end = 2 * game.worthOf(1 - player);
            finder.find(list, rack, game.kit.start);
            list.sort();
            for (int index = 0; index < list.count && best < high; index++) {
                int points = list.pointsAt(index);
                int worth = list.unpack(index, codes) == held ? points + end
                    : points - weighBehind(player, index, points - high, points - Math.max(low, best), level);
                if (worth > best) {
                    best = worth;
                    first = index;
                }
            }
            picked = first;
            return best;
        }

        /** What the other player gets more behind a play of the list that leaves tiles on the rack. */
        private int weighBehind(int player, int index, int low, int high, int level) {
            Plays list = level >= 0 && level < lists.length ? lists[level] : null;
            Lay lay = level >= 0 && level < lays.length ? lays[level] : null;
            if (list == null || lay == null) {
                return FAR;
            }
            int[] rack = game.rackOf(player);
            lay.lay(list.cellAt(index), list.stepAt(index), codes, list.unpack(index, codes));
            lay.settle();
            lay.changeCounts(rack, -1);
            int worth = weigh(1 - player, 0, low, high, level + 1);
            lay.changeCounts(rack, 1);
            lay.lift();
            return worth;
        }
    }

    /** The turns of a game, and the sheet that tells points for them. */
    private static final class Log {
        private static final int UNTOLD = -1;

        final int[] players = new int[MOST_TURNS];
        final int[] kinds = new int[MOST_TURNS];
        final int[] points = new int[MOST_TURNS];
        final int[] told = new int[MOST_TURNS];
        int count;

        void clear() {
            count = 0;
            Arrays.fill(points, 0);
        }

        void add(int player, int kind, int earned) {
            if (count < MOST_TURNS) {
                put(players, count, player);
                put(kinds, count, kind);
                put(points, count, earned);
                put(told, count, UNTOLD);
                count++;
            }
        }

        void takeBackLast() {
            put(kinds, count - 1, TAKEN_BACK);
            put(points, count - 1, 0);
        }

        boolean isLastPlay() {
            return count > 0 && at(kinds, count - 1) == PLAYED;
        }

        int lastPlayer() {
            return at(players, count - 1);
        }

        int lastPoints() {
            return at(points, count - 1);
        }

        /** How many turns in a row, up to the last one, were without a play. */
        int idle() {
            int idle = 0;
            while (idle < count && at(kinds, count - 1 - idle) != PLAYED) {
                idle++;
            }
            return idle;
        }

        int countPlays() {
            int plays = 0;
            for (int turn = 0; turn < count; turn++) {
                if (at(kinds, turn) == PLAYED) {
                    plays++;
                }
            }
            return plays;
        }

        int onSheet(int turn) {
            int points = at(told, turn);
            return points == UNTOLD ? at(this.points, turn) : points;
        }

        int firstFault() {
            for (int turn = 0; turn < count; turn++) {
                if (onSheet(turn) != at(points, turn)) {
                    return turn;
                }
            }
            return -1;
        }

        int sumOnSheet(int player) {
            int sum = 0;
            for (int turn = 0; turn < count; turn++) {
                if (at(players, turn) == player) {
                    sum += onSheet(turn);
                }
            }
            return sum;
        }

        int sumOf(int player) {
            int sum = 0;
            for (int turn = 0; turn < count; turn++) {
                if (at(players, turn) == player) {
                    sum += at(points, turn);
                }
            }
            return sum;
        }
    }

    /** A game of two. */
    private static final class Game {
        final Kit kit;
        final Field field = new Field();
        final Lay trial = new Lay(field);
        final Lay last = new Lay(field);
        final Log log = new Log();
        final int[] firstRack = new int[KINDS];
        final int[] secondRack = new int[KINDS];
        final int[] bag = new int[KINDS];
        final int[] counts = new int[KINDS];
        final int[] drawn = new int[KINDS];
        final int[] needs = new int[KINDS];
        final int[] points = new int[2];
        final int[] brought = new int[2];
        final int[] spent = new int[2];
        boolean isBegun;
        boolean isRated;
        boolean isChallenged;
        char house = 'v';
        int seed;
        int mover;

        Game(Kit kit) {
            this.kit = kit;
        }

        void open(int full, char house, int seed) {
            field.open(kit, full);
            log.clear();
            for (int kind = 0; kind < KINDS; kind++) {
                int count = at(kit.counts, kind);
                put(counts, kind, count);
                put(bag, kind, count);
                put(firstRack, kind, 0);
                put(secondRack, kind, 0);
            }
            Arrays.fill(points, 0);
            Arrays.fill(brought, 0);
            Arrays.fill(spent, 0);
            this.house = house;
            this.seed = seed;
            mover = 0;
            isBegun = true;
            isRated = false;
            isChallenged = false;
            fill(firstRack);
            fill(secondRack);
        }

        int[] rackOf(int player) {
            return player == 0 ? firstRack : secondRack;
        }

        int worthOf(int player) {
            int[] rack = rackOf(player);
            int worth = 0;
            for (int kind = 0; kind < rack.length; kind++) {
                worth += rack[kind] * at(field.values, kind);
            }
            return worth;
        }

        boolean isFinished() {
            return isPlayedOut() || log.idle() >= LAST_IDLE;
        }

        boolean isEnd() {
            return sum(bag) == 0 && sum(firstRack) + sum(secondRack) <= END_TILES;
        }

        /** Leaves the tiles on the board if they can be laid there. */
        boolean canLay(int cell, int step, int[] codes, int count) {
            if (!hasTiles(codes, count) || !trial.lay(cell, step, codes, count)) {
                return false;
            }
            if (!trial.isJoined(kit.start)) {
                trial.lift();
                return false;
            }
            return true;
        }

        /** The tiles of the trial stay; its player draws. */
        int stand() {
            int earned = trial.points();
            int[] rack = rackOf(mover);
            trial.changeCounts(rack, -1);
            trial.settle();
            last.copy(trial);
            trial.count = 0;
            fill(rack);
            change(points, mover, earned);
            isChallenged = false;
            endTurn(PLAYED, earned);
            return earned;
        }

        void endTurn(int kind, int earned) {
            log.add(mover, kind, earned);
            mover = 1 - mover;
        }

        boolean canChallenge() {
            return log.isLastPlay() && !isChallenged && house != 'v';
        }

        /** Judges the last play, and returns whether it is taken back. */
        boolean judge(Graph graph) {
            isChallenged = true;
            if (!last.isLawful(graph)) {
                takeBack();
                return true;
            }
            if (house == 'd' && !isFinished()) {
                endTurn(LOST, 0);
            }
            if (house == 'f') {
                change(points, log.lastPlayer(), 5);
                change(brought, log.lastPlayer(), 5);
            }
            return false;
        }

        boolean canExchange(int[] tiles) {
            int[] rack = rackOf(mover);
            for (int kind = 0; kind < tiles.length; kind++) {
                if (tiles[kind] > at(rack, kind)) {
                    return false;
                }
            }
            return sum(bag) >= field.full;
        }

        void swap(int[] tiles, int count) {
            int[] rack = rackOf(mover);
            move(tiles, rack, -1);
            for (int k = 0; k < count && k < MOST_LAID; k++) {
                change(rack, draw(), 1);
            }
            move(tiles, bag, 1);
            endTurn(EXCHANGED, 0);
        }

        /** What a player has, by the time that is told now. */
        int standing(int player, int time) {
            int standing = at(points, player);
            if (!isFinished()) {
                return standing;
            }
            if (!isPlayedOut()) {
                standing -= worthOf(player);
            } else if (log.lastPlayer() == player) {
                standing += 2 * worthOf(1 - player);
            }
            int beyond = Math.max(0, at(spent, player) - time);
            return standing - 10 * ((beyond + 59) / 60);
        }

        boolean hasItsTiles() {
            for (int kind = 0; kind < needs.length; kind++) {
                needs[kind] = at(firstRack, kind) + at(secondRack, kind) + at(bag, kind);
            }
            for (int cell = 0; cell < CELLS; cell++) {
                if (field.tileAt(cell) != 0) {
                    change(needs, kindOf(field.tileAt(cell)), 1);
                }
            }
            for (int kind = 0; kind < needs.length; kind++) {
                if (needs[kind] != at(counts, kind)) {
                    return false;
                }
            }
            return true;
        }

        boolean hasItsPoints() {
            return at(points, 0) == log.sumOf(0) + at(brought, 0)
                && at(points, 1) == log.sumOf(1) + at(brought, 1);
        }

        private boolean isPlayedOut() {
            return log.isLastPlay() && sum(bag) == 0 && sum(rackOf(log.lastPlayer())) == 0;
        }

        private void takeBack() {
            int player = log.lastPlayer();
            int[] rack = rackOf(player);
            last.changeCounts(rack, 1);
            last.lift();
            move(drawn, rack, -1);
            move(drawn, bag, 1);
            change(points, player, -log.lastPoints());
            log.takeBackLast();
        }

        private boolean hasTiles(int[] codes, int count) {
            Arrays.fill(needs, 0);
            for (int place = 0; place < count && place < codes.length; place++) {
                if (codes[place] >= FREE_BLANK) {
                    return false;
                }
                change(needs, kindOf(codes[place]), 1);
            }
            int[] rack = rackOf(mover);
            for (int kind = 0; kind < needs.length; kind++) {
                if (needs[kind] > at(rack, kind)) {
                    return false;
                }
            }
            return true;
        }

        /** Draws up to a full rack, and keeps what was drawn, for a challenge. */
        private void fill(int[] rack) {
            Arrays.fill(drawn, 0);
            for (int k = 0; k < MOST_LAID && sum(rack) < field.full && sum(bag) > 0; k++) {
                int kind = draw();
                change(rack, kind, 1);
                change(drawn, kind, 1);
            }
        }

        /** The bag's place of a tile drawn; -1 from an empty bag. */
        private int draw() {
            int all = sum(bag);
            if (all <= 0) {
                return -1;
            }
            seed = seed * 1103515245 + 12345;
            int place = (seed >>> 16) % all;
            for (int kind = 0; kind < bag.length; kind++) {
                place -= bag[kind];
                if (place < 0) {
                    bag[kind]--;
                    return kind;
                }
            }
            return -1;
        }

        private static void move(int[] tiles, int[] counts, int by) {
            for (int kind = 0; kind < tiles.length; kind++) {
                change(counts, kind, by * tiles[kind]);
            }
        }
    }
}
