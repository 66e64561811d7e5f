/** What the tests of edges share: answers that are due, told with the document's sentence that asks for them. */
final class Checks {
    static final int NONE = RowStore.NONE;
    static final String ELEMENT = "throws.NoSuchElementException";
    static final String ARGUMENT = "throws.IllegalArgumentException";

    private static final int NO_KEY = 255;

    private static int wrong = 0;
    private static String sentence = "";

    interface Call {
        int ask(RowStore x);
    }

    interface Script {
        void run(RowStore x);
    }

    private Checks() {
    }

    /** The words of the document that the checks from here on are for. */
    static void says(String words) {
        sentence = words;
    }

    static void due(String call, String want, String got) {
        if (!want.equals(got)) {
            wrong++;
            System.out.println("\"" + sentence + "\": " + call + " answered " + got + ", due is " + want);
        }
    }

    static void due(String call, int want, int got) {
        due(call, String.valueOf(want), String.valueOf(got));
    }

    static void element(String name, RowStore x, Call call) {
        due(name, ELEMENT, answer(x, call));
    }

    static void argument(String name, RowStore x, Call call) {
        due(name, ARGUMENT, answer(x, call));
    }

    static String answer(RowStore x, Call call) {
        try {
            return String.valueOf(call.ask(x));
        } catch (RuntimeException e) {
            return "throws." + e.getClass().getSimpleName();
        }
    }

    static void end() {
        if (wrong > 0) {
            System.exit(1);
        }
    }

    static RowStore made(Script script) {
        RowStore x = new RowStore();
        script.run(x);
        return x;
    }

    /** A store whose keys were put in this order, each with ten times itself (but 0 to 999) as value. */
    static RowStore with(int... keys) {
        RowStore x = new RowStore();
        putAll(x, keys);
        return x;
    }

    static void putAll(RowStore x, int... keys) {
        for (int key : keys) {
            x.put(key, key * 10 % 1000);
        }
    }

    /** Keys from one on, rising, packed. */
    static RowStore packed(int from, int many) {
        RowStore x = new RowStore();
        int[] pairs = new int[2 * many];
        for (int i = 0; i < many; i++) {
            pairs[2 * i] = from + i;
            pairs[2 * i + 1] = 7;
        }
        acts(x, pairs);
        x.pack();
        return x;
    }

    /** Acts by the tape, as a hundred of them take eleven calls only; what is left of a feed is filled with no key. */
    static int acts(RowStore x, int... pairs) {
        int taken = 0;
        for (int from = 0; from < pairs.length; from += 200) {
            int to = Math.min(from + 200, pairs.length);
            for (int i = from; i < to; i += 20) {
                x.feed(four(pairs, i), four(pairs, i + 4), four(pairs, i + 8), four(pairs, i + 12), four(pairs, i + 16));
            }
            taken += x.batch(to - from);
        }
        return taken;
    }

    private static int four(int[] bytes, int at) {
        int number = 0;
        for (int i = at; i < at + 4; i++) {
            number = number << 8 | (i < bytes.length ? bytes[i] : NO_KEY);
        }
        return number;
    }

    /** So many acts, of the keys 0, 1 .. 199, 0 .., from the first-th on. */
    static void round(RowStore x, int first, int many, int value) {
        int[] pairs = new int[2 * many];
        for (int i = 0; i < many; i++) {
            pairs[2 * i] = (first + i) % 200;
            pairs[2 * i + 1] = value;
        }
        acts(x, pairs);
    }

    /**
     * Every level has two shut rows, and the last one merges them into its third: with no step but forced ones it
     * takes 2 and 4 and 8 .. and 512 acts.
     */
    static void fill(RowStore x) {
        x.budget(0);
        round(x, 0, 1022, 7);
    }

    /** Level 1 has no free row, so level 0 has two shut ones and can't begin; level 1 merges four things. */
    static void jam(RowStore x) {
        x.budget(0);
        putAll(x, 1, 2, 3, 4, 5, 6);
    }

    static int[] keysOf(RowStore x, int level, int row) {
        int[] keys = new int[x.row(level, row, 1)];
        for (int i = 0; i < keys.length; i++) {
            keys[i] = x.thing(level, row, i, 0);
        }
        return keys;
    }

    static void keys(String name, RowStore x, int level, int row, int... want) {
        due(name, java.util.Arrays.toString(want), java.util.Arrays.toString(keysOf(x, level, row)));
    }

    static int rowsOf(int level) {
        return level == 8 ? 3 : 2;
    }
}
