import java.lang.reflect.Method;

/** Runs of 512 drawn calls on new objects, each answer set against the model's. */
public final class ModelTest {
    private static final int RUNS = 1500;
    private static final int CALLS = 512;

    /** Each row: how often in a run, the call, and for each argument its usual least and greatest. */
    private static final String[] FACE = {
        "1 seed -9:9", "6 cove 0:5 0:9 1:99", "3 row 0:3 0:30", "1 lose 0:3", "8 put 0:3 0:9 0:20",
        "3 copy 0:3 0:9 0:3 0:9 0:9", "3 lead 0:5 -1:3", "6 tide 0:5 0:1000", "4 boat 0:20 1:60 0:99 8:15",
        "40 load 0:7 0:25", "6 hide 0:5 1:200 1:20", "12 stand 0:5 0:4", "5 bribe 0:5 true", "6 share 0:5 0:99",
        "3 draws 0:9", "4 price 0:999", "5 law 0:60 0:60 now", "24 word 0:5 now 0:5", "50 nights 1:3",
        "8 search 0:11", "8 best 0:100", "12 belief 0:5 now 0:1", "8 weight 0:5 0:1", "8 value 0:6 1:99 0:1",
        "10 chance 0:5 0:6 1:99 0:1", "5 used 0:6 0:300 0:300 0:100", "12 landed 0:6 0:3", "16 lotOf 0:60 0:5",
        "24 boatOf 0:7 0:8", "12 hideOf 0:11 0:2", "8 watched 0:5", "10 coins 0:7", "12 count 0:17",
    };

    private static long state = 20261118L;

    private static int below(int n) {
        state = state * 6364136223846793005L + 1442695040888963407L;
        return (int) ((state >>> 33) % n);
    }

    public static void main(String[] args) throws ReflectiveOperationException {
        Check check = new Check();
        check.holds("every call of the face is drawn", FACE.length == 33);
        for (int run = 0; run < RUNS; run++) {
            check.begin("run " + run);
            run(check, run % 4);
        }
        check.finish();
    }

    /** What a run of style 3 begins with: BOATS that always go, a PRICE and a LAW that leaves something to all. */
    private static final String[] BUSY = {"boat 0 60 5 15", "boat 3 60 15 15", "boat 0 60 25 15", "boat 0 9 45 15",
        "price 97", "law 31 23 0", "hide 0 200 3", "hide 1 90 2", "hide 0 50 5", "hide 2 200 1", "share 1 3",
        "share 0 2"};

    /**
     * Style 0: usual arguments and a few at the edges; 1: more at the edges; 2: long spans of nights; 3: busy coves,
     * where INFORMERS tell of the next night at the first COVES.
     */
    private static void run(Check check, int style) throws ReflectiveOperationException {
        CoastWatch x = new CoastWatch();
        Model model = new Model();
        for (int call = 0; call < CALLS; call++) {
            boolean begins = style == 3 && call < BUSY.length;
            String[] words = (begins ? "1 " + BUSY[call].replaceAll(" (\\d+)", " $1:$1") : drawnRow()).split(" ");
            Method asked = named(CoastWatch.class, words[1]);
            Object[] arguments = new Object[words.length - 2];
            StringBuilder told = new StringBuilder(call + ": " + words[1]);
            for (int i = 0; i < arguments.length; i++) {
                arguments[i] = argument(words[i + 2], model.count(0), begins ? Integer.MAX_VALUE : style == 1 ? 6 : 25);
                if (style == 2 && words[1].equals("nights") && below(4) == 0) {
                    arguments[i] = below(80);
                }
                if (style == 3 && words[1].equals("word") && i > 0) {
                    arguments[i] = i == 1 ? model.count(0) + 1 : below(2);
                }
                told.append(' ').append(arguments[i]);
            }
            Number got = (Number) asked.invoke(x, arguments);
            Number want = (Number) named(Model.class, words[1]).invoke(model, arguments);
            check.due(told.toString(), got.longValue(), want.longValue());
        }
    }

    private static String drawnRow() {
        int all = 0;
        for (String row : FACE) {
            all += often(row);
        }
        int number = below(all);
        for (String row : FACE) {
            number -= often(row);
            if (number < 0) {
                return row;
            }
        }
        return FACE[0];
    }

    private static int often(String row) {
        return Integer.parseInt(row.substring(0, row.indexOf(' ')));
    }

    private static Object argument(String kind, int now, int edges) {
        if (kind.equals("true")) {
            return below(2) == 0;
        }
        int least = kind.equals("now") ? now : Integer.parseInt(kind.substring(0, kind.indexOf(':')));
        int most = kind.equals("now") ? now + 4 : Integer.parseInt(kind.substring(kind.indexOf(':') + 1));
        if (below(edges) != 0) {
            return least + below(most - least + 1);
        }
        int[] edge = {least - 1, least, most, most + 1, 0, -1, 100, 101, 1000, 1001, 100000, 100001,
            Integer.MIN_VALUE, Integer.MAX_VALUE};
        return edge[below(edge.length)];
    }

    private static Method named(Class<?> type, String name) {
        for (Method method : type.getDeclaredMethods()) {
            if (method.getName().equals(name) && java.lang.reflect.Modifier.isPublic(method.getModifiers())) {
                return method;
            }
        }
        throw new IllegalArgumentException(name);
    }
}
