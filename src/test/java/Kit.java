import java.nio.charset.StandardCharsets;
import java.util.NoSuchElementException;
import java.util.function.Consumer;
import java.util.function.Supplier;

/** What the tests share: texts put on the tape, answers compared with those that are due. */
final class Kit {
    static final String VALLEY = "span 10;winter 5 2;person ann 2 25 30;person bob 3 47 10;person cid 1 9 0;"
            + "food bread 8 2;food cheese 20 1;meeting court ann bob;meeting mass ann bob cid;"
            + "debt ann bob 12 3;debt bob cid 15 5;";

    private static int wrong;
    private static int looked;

    private Kit() {
    }

    static void due(String call, long want, long got) {
        looked++;
        if (want != got) {
            wrong++;
            System.out.println(call + " answered " + got + ", due is " + want);
        }
    }

    static void due(String call, boolean want, boolean got) {
        due(call, want ? 1 : 0, got ? 1 : 0);
    }

    static void duePersonThrows(HungerDays x, int p, int what) {
        boolean thrown = false;
        try {
            x.person(p, what);
        } catch (NoSuchElementException e) {
            thrown = true;
        }
        due("person(" + p + ", " + what + ") throws", true, thrown);
    }

    static void dueDebtThrows(HungerDays x, int d, int what) {
        boolean thrown = false;
        try {
            x.debt(d, what);
        } catch (NoSuchElementException e) {
            thrown = true;
        }
        due("debt(" + d + ", " + what + ") throws", true, thrown);
    }

    static void end() {
        System.out.println(looked + " answers, " + wrong + " not as due");
        if (wrong > 0) {
            System.exit(1);
        }
    }

    /** Puts bytes behind the tape; it has those alone behind what it had. */
    static void put(HungerDays x, byte[] bytes) {
        int had = x.count(5);
        for (int i = 0; i < bytes.length; i += 20) {
            x.feed(number(bytes, i), number(bytes, i + 4), number(bytes, i + 8), number(bytes, i + 12),
                    number(bytes, i + 16));
        }
        x.end(had + bytes.length);
    }

    static void put(HungerDays x, String text) {
        put(x, text.getBytes(StandardCharsets.ISO_8859_1));
    }

    private static int number(byte[] bytes, int from) {
        int n = 0;
        for (int i = from; i < from + 4; i++) {
            n = n << 8 | (i < bytes.length ? bytes[i] & 255 : 0);
        }
        return n;
    }

    static HungerDays of(String valley) {
        HungerDays x = new HungerDays();
        put(x, valley);
        int lines = x.valley();
        if (lines < 0) {
            due("valley of " + valley, 0, lines);
        }
        return x;
    }

    static int valley(HungerDays x, String text) {
        put(x, text);
        return x.valley();
    }

    static int book(HungerDays x, String text, int lives) {
        put(x, text);
        return x.book(lives);
    }

    static int sentence(HungerDays x, String text) {
        put(x, text);
        return x.sentence();
    }

    static int ate(HungerDays x, int hunger, int date) {
        put(x, new byte[] {(byte) hunger, (byte) date});
        return x.ate();
    }

    /** A text of a fault: its place and kind are due. */
    static void dueValleyFault(String text, int place, int kind) {
        HungerDays x = new HungerDays();
        due("valley of " + text, -1 - place, valley(x, text));
        due("fault of " + text, kind, x.fault());
    }

    static void dueBookFault(String text, int place, int kind) {
        HungerDays x = of(VALLEY);
        due("book of " + text, -2 - place, book(x, text, 0));
        due("fault of " + text, kind, x.fault());
    }

    static void dueSentenceFault(String text, int place, int kind) {
        HungerDays x = of(VALLEY);
        due("sentence of " + text, -1 - place, sentence(x, text));
        due("fault of " + text, kind, x.fault());
    }

    /** All but fault() that an object tells by calls that leave it as it is (180 of its 512 calls at most). */
    static String seen(HungerDays x) {
        StringBuilder all = new StringBuilder();
        int[] counts = new int[6];
        for (int what = 0; what < 6; what++) {
            counts[what] = x.count(what);
            all.append(counts[what]).append(' ');
        }
        for (int p = 0; p < counts[0]; p++) {
            for (int what = 0; what < 8; what++) {
                all.append(x.person(p, what)).append(' ');
            }
            all.append("plate ").append(x.plate(p)).append(' ');
        }
        for (int d = 0; d < counts[3]; d++) {
            for (int what = 0; what < 6; what++) {
                all.append(x.debt(d, what)).append(' ');
            }
        }
        for (int what = 0; what < 8; what++) {
            for (int f = 0; f < counts[1] && what < 2; f++) {
                all.append(x.food(f, what)).append(' ');
            }
            for (int m = 0; m < counts[2] && what < 4; m++) {
                all.append(x.meeting(m, what)).append(' ');
            }
            all.append("now ").append(x.now(what)).append(' ');
            all.append(what < 4 ? x.told(what) : 0).append(' ');
            all.append(x.said(what - 1)).append(' ');
        }
        return all.append(x.feast() + " " + x.surely() + " " + x.ask()).toString();
    }

    /** What is so behind each undo(), till nothing more can be undone; the object is used up by it. */
    static String past(HungerDays x) {
        StringBuilder all = new StringBuilder();
        for (int i = 0; i < 10; i++) {
            all.append(x.undo() + " at " + x.now(0) + " " + x.now(2) + " " + x.now(3) + " " + x.now(6) + ", ");
        }
        return all.toString();
    }

    /** A call leaves all as it is: two objects made alike stay alike, though the call is made on one alone. */
    static void dueNoChange(String call, Supplier<HungerDays> maker, Consumer<HungerDays> refused) {
        HungerDays x = maker.get();
        HungerDays twin = maker.get();
        refused.accept(x);
        String want = seen(twin);
        String got = seen(x);
        due(call + " leaves " + want + " (now " + got + ")", true, want.equals(got));
        due(call + " leaves fault()", twin.fault(), x.fault());
        due(call + " leaves what can be undone", true, past(twin).equals(past(x)));
    }

    static void goTo(HungerDays x, int hour) {
        while (x.now(0) < hour) {
            x.hours(Math.min(60, hour - x.now(0)));
        }
    }

    static String repeat(String part, int times) {
        return part.repeat(Math.max(0, times));
    }
}
