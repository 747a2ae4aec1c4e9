import java.util.function.BiFunction;
import java.util.function.Supplier;

/** What the tests share: answers held against what is due, and short ways to type and to begin. */
final class Check {
    static final Class<IllegalArgumentException> ARGUMENT = IllegalArgumentException.class;
    static final Class<IllegalStateException> STATE = IllegalStateException.class;
    static final Class<IndexOutOfBoundsException> INDEX = IndexOutOfBoundsException.class;
    static final Class<java.util.NoSuchElementException> ELEMENT = java.util.NoSuchElementException.class;
    static final Class<UnsupportedOperationException> UNSUPPORTED = UnsupportedOperationException.class;
    static final Class<ArithmeticException> ARITHMETIC = ArithmeticException.class;

    private static int checks = 0;
    private static int wrong = 0;

    private Check() {
    }

    /** A call whose answer or exception is looked at. */
    interface Call {
        Object answer();
    }

    static void due(String what, Object want, Object got) {
        checks++;
        if (!want.equals(got)) {
            wrong++;
            System.out.println(what + " answered " + got + ", due is " + want);
        }
    }

    static void thrown(String what, Class<? extends RuntimeException> want, Call call) {
        Object got;
        try {
            got = call.answer();
        } catch (RuntimeException thrown) {
            got = thrown.getClass();
        }
        due(what, want, got);
    }

    /** Of all signs that there are, just the told ones are taken; a new object is made before too many calls. */
    static void signs(String what, String taken, Supplier<Lexirack> maker, BiFunction<Lexirack, Character, Object> call) {
        Lexirack[] x = {maker.get()};
        for (int sign = 0; sign <= Character.MAX_VALUE; sign++) {
            char each = (char) sign;
            if (sign % 100 == 0 || taken.indexOf(each) >= 0) {
                x[0] = maker.get();
            }
            boolean isRefused = false;
            try {
                call.apply(x[0], each);
            } catch (IllegalArgumentException thrown) {
                isRefused = true;
            }
            due(what + " of the sign " + sign + " is refused", taken.indexOf(each) < 0, isRefused);
        }
    }

    static void end(String name) {
        System.out.println(name + ": " + checks + " checks, " + wrong + " wrong");
        if (wrong != 0 || checks == 0) {
            System.exit(1);
        }
    }

    static Lexirack typed(Lexirack x, String signs) {
        x.wipe();
        for (char sign : signs.toCharArray()) {
            x.type(sign);
        }
        return x;
    }

    static Lexirack withWords(Lexirack x, String... words) {
        for (String word : words) {
            typed(x, word).word(0, 9);
        }
        return x;
    }

    static Lexirack book(String... words) {
        return withWords(new Lexirack(), words);
    }

    /** The tiles told, and no others, are the set; values stay. */
    static Lexirack tiles(Lexirack x, String tiles) {
        for (char kind : "abcdefgh?".toCharArray()) {
            int count = 0;
            for (char tile : tiles.toCharArray()) {
                count += tile == kind ? 1 : 0;
            }
            int before = x.letter(kind, 0, count);
            x.letter(kind, before / 100, count);
        }
        return x;
    }

    static Lexirack values(Lexirack x, String letters, int... values) {
        for (int k = 0; k < values.length; k++) {
            int count = x.letter(letters.charAt(k), 0, 0) % 100;
            x.letter(letters.charAt(k), values[k], count);
        }
        return x;
    }

    static String rack(Lexirack x, int player) {
        StringBuilder rack = new StringBuilder();
        for (char kind : "abcdefgh?".toCharArray()) {
            rack.append(String.valueOf(kind).repeat(x.rack(player, kind)));
        }
        return rack.toString();
    }

    /** Begins games, by one seed after the other, until the players have these racks; nothing is promised past 512 calls. */
    static Lexirack dealt(Supplier<Lexirack> maker, int full, char house, String first, String second) {
        for (int seed = 0; seed < 200000; seed++) {
            Lexirack x = maker.get();
            x.begin(full, house, seed);
            if (rack(x, 0).equals(first) && rack(x, 1).equals(second)) {
                return x;
            }
        }
        throw new IllegalStateException("no seed deals " + first + " and " + second);
    }

    static int played(Lexirack x, String signs, int column, int row, boolean isDown) {
        return typed(x, signs).play(column, row, isDown);
    }

    static String tilesOf(Lexirack x, int index) {
        StringBuilder tiles = new StringBuilder();
        for (int place = 0; place < x.playAt(index, 'n'); place++) {
            tiles.append(x.playTile(index, place));
        }
        return tiles.toString();
    }

    /** All plays in short, of lists that leave room in an object's 512 calls. */
    static java.util.List<String> list(Lexirack x) {
        java.util.List<String> list = new java.util.ArrayList<>();
        int plays = x.plays();
        due("a list short enough to be looked at", true, plays <= 40);
        for (int index = 0; index < plays && index < 40; index++) {
            list.add(told(x, index));
        }
        return list;
    }

    /** A play of the list in short: column, row, direction, tiles, score. */
    static String told(Lexirack x, int index) {
        return x.playAt(index, 'x') + " " + x.playAt(index, 'y') + (x.playAt(index, 'd') == 1 ? " below " : " right ")
            + tilesOf(x, index) + " " + x.playAt(index, 's');
    }
}
