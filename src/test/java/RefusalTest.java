import java.util.NoSuchElementException;
import java.util.function.Consumer;
import java.util.function.ToIntFunction;

/** "A call that throws changes nothing", nor does one that is refused, nor one that tells only. */
final class RefusalTest {
    private static final int[] ODD = {-1, -2, 7, 10, 11, 32, 64, 200, 601, 1000, Integer.MAX_VALUE, Integer.MIN_VALUE};

    public static void main(String[] args) {
        callsThatThrow();
        actsThatAreNotDone();
        numbersOutOfRange();
        callsThatTell();
        textsWithFaults();
        allIsOver();
        Kit.end();
    }

    /** An object with something of all: acts to undo, an image, a sentence, what calls told, bytes on the tape. */
    private static HungerDays busy() {
        HungerDays x = Kit.of(Kit.VALLEY + "person dan 0 0 0;food milk 5 0;meeting club cid;meeting trip dan;meeting far ann dan;");
        Kit.sentence(x, "in court or owes");
        x.image(0);
        x.eat(1, 1);
        x.table(3);
        Kit.ate(x, 47, 1);
        x.ail(2);
        x.hours(3);
        x.meet(3);
        Kit.book(x, "hour 2;ann mends;", 0);
        Kit.put(x, "abc");
        return x;
    }

    private static void dueRefused(String call, int want, ToIntFunction<HungerDays> refused) {
        Kit.due(call, want, refused.applyAsInt(busy()));
        Kit.dueNoChange(call, RefusalTest::busy, refused::applyAsInt);
    }

    private static void dueThrows(String call, Consumer<HungerDays> thrown) {
        dueRefused(call, -7777, x -> {
            try {
                thrown.accept(x);
            } catch (NoSuchElementException e) {
                return -7777;
            }
            return 0;
        });
    }

    /** "A call that throws changes nothing." */
    private static void callsThatThrow() {
        for (int odd : ODD) {
            dueThrows("person(" + odd + ", 0)", x -> x.person(odd, 0));
            dueThrows("debt(" + odd + ", 0)", x -> x.debt(odd, 0));
            dueThrows("person(" + odd + ", " + odd + ")", x -> x.person(odd, odd));
            if (odd != 7) {
                dueThrows("person(0, " + odd + ")", x -> x.person(0, odd));
            }
            dueThrows("debt(0, " + odd + ")", x -> x.debt(0, odd));
        }
    }

    /** Why acts are not done: nothing of them is. */
    private static void actsThatAreNotDone() {
        dueRefused("the ill eat", 1, x -> x.eat(2, 0));
        dueRefused("no portion", 2, x -> x.eat(0, 2));
        dueRefused("no hunger", 3, x -> x.eat(3, 0));
        dueRefused("ill already", 1, x -> x.ail(2));
        dueRefused("not ill", 1, x -> x.mend(0));
        dueRefused("held already", 1, x -> x.meet(3));
        dueRefused("one is ill", 2, x -> x.meet(2));
        dueRefused("not of one date", 3, x -> x.meet(4));
        dueRefused("nothing is kept there", 0, x -> x.restore(1) ? 1 : 0);
        dueRefused("another lives", -1000, x -> x.book(2));
        dueRefused("another lives", -1000, x -> x.book(-1));
        dueRefused("the tape has not so many", 0, x -> x.end(4) ? 1 : 0);
    }

    /** Numbers of which the document says 'no such one', 'not as told'. */
    private static void numbersOutOfRange() {
        for (int odd : ODD) {
            dueRefused("food(" + odd + ", 0)", -1, x -> x.food(odd, 0));
            dueRefused("meeting(" + odd + ", 0)", -1, x -> x.meeting(odd, 0));
            dueRefused("eat(" + odd + ", 0)", -1, x -> x.eat(odd, 0));
            dueRefused("eat(0, " + odd + ")", -1, x -> x.eat(0, odd));
            dueRefused("ail(" + odd + ")", -1, x -> x.ail(odd));
            dueRefused("mend(" + odd + ")", -1, x -> x.mend(odd));
            dueRefused("meet(" + odd + ")", -1, x -> x.meet(odd));
            dueRefused("plate(" + odd + ")", -1, x -> x.plate(odd));
            dueRefused("twins(0, " + odd + ")", -1, x -> x.twins(0, odd));
            dueRefused("share(5, " + odd + ")", -1, x -> x.share(5, odd));
            dueRefused("later(" + odd + ", 5)", -1, x -> x.later(odd, 5));
            dueRefused("paid(" + odd + ")", -1, x -> x.paid(odd));
            dueRefused("odds(" + odd + ", 1, 1)", -1, x -> x.odds(odd, 1, 1));
            dueRefused("image(" + odd + ")", 0, x -> x.image(odd) ? 1 : 0);
            dueRefused("restore(" + odd + ")", 0, x -> x.restore(odd) ? 1 : 0);
            dueRefused("end(" + odd + ")", 0, x -> x.end(odd) ? 1 : 0);
        }
        for (int odd : new int[] {0, 61, -1, Integer.MAX_VALUE, Integer.MIN_VALUE}) {
            dueRefused("hours(" + odd + ")", -1, x -> x.hours(odd));
            dueRefused("drawn(" + odd + ", 1)", -1, x -> x.drawn(odd, 1));
            dueRefused("odds(0, " + odd + ", 1)", -1, x -> x.odds(0, odd, 1));
        }
        for (int odd : new int[] {200, -1, Integer.MAX_VALUE, Integer.MIN_VALUE}) {
            dueRefused("on(" + odd + ")", -1, x -> x.on(odd));
            dueRefused("late(" + odd + ")", -1, x -> x.late(odd));
            dueRefused("keeps(" + odd + ")", -1, x -> x.keeps(odd));
            dueRefused("now(" + odd + ")", -1, x -> x.now(odd));
            dueRefused("count(" + odd + ")", -1, x -> x.count(odd));
            dueRefused("told(" + odd + ")", -1, x -> x.told(odd));
        }
        for (int set : new int[] {4, 5, 11, 16, -1, Integer.MIN_VALUE}) {
            dueRefused("table(" + set + ")", -1, x -> x.table(set));
        }
    }

    /** Calls that tell what is so or would be: all stays as it is. */
    private static void callsThatTell() {
        Kit.dueNoChange("what will be", RefusalTest::busy, x -> {
            x.twins(0, 1);
            x.late(5);
            x.keeps(1);
            x.later(1, 600);
            x.paid(1);
            x.odds(0, 30, 9);
        });
        Kit.dueNoChange("what is so", RefusalTest::busy, x -> {
            x.on(2);
            x.common();
            x.share(999, 0);
            x.clash(-1);
            x.clash(0);
            x.said(0);
            x.image(1);
        });
    }

    /** A FAULT: the tape is empty then, its kind is told, and all else stays. */
    private static void textsWithFaults() {
        dueStays("valley", x -> x.valley(), "span 5;person a 1 2 3;food f 1 1;meeting m a;debt a a 1 1;");
        dueStays("valley", x -> x.valley(), "span 5;winter 0 9;x");
        dueStays("book", x -> x.book(0), "hour 5;bob eats bread;bob eats x;");
        dueStays("book", x -> x.book(1), "hour 5;bob eats bread;bob eats x;");
        dueStays("sentence", x -> x.sentence(), "ill or not ill or like x");
        dueStays("ate", x -> x.ate(), "abc");
        dueStays("ate", x -> x.ate(), "\u00c8\u0000");
    }

    private static void dueStays(String call, Consumer<HungerDays> refused, String text) {
        HungerDays x = busy();
        HungerDays twin = busy();
        x.end(0);
        twin.end(0);
        Kit.put(x, text);
        refused.accept(x);
        Kit.due("a fault is told but by ate()", !call.equals("ate"), x.fault() > 0);
        Kit.due(call + " of " + text + " leaves all", true, Kit.seen(twin).equals(Kit.seen(x)));
        Kit.due(call + " of " + text + " leaves what can be undone", true, Kit.past(twin).equals(Kit.past(x)));
    }

    /** "600: all are over": hours() and drawn() of 0 change nothing. */
    private static void allIsOver() {
        for (int i = 0; i < 2; i++) {
            HungerDays x = busy();
            HungerDays twin = busy();
            Kit.goTo(x, 600);
            Kit.goTo(twin, 600);
            Kit.due("no hour", 0, i == 0 ? x.hours(60) : x.drawn(60, 5));
            Kit.due("all stays", true, Kit.seen(twin).equals(Kit.seen(x)));
            Kit.due("what can be undone stays", true, Kit.past(twin).equals(Kit.past(x)));
        }
    }
}
