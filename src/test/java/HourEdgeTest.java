/** Edges of promises 11 to 16: why acts are not done, how hours go, how many acts can be undone. */
final class HourEdgeTest {
    private static final int[] ODD = {-1, -2, 6, 32, 33, Integer.MAX_VALUE, Integer.MIN_VALUE};

    public static void main(String[] args) {
        eatingReasons();
        hungerIsNoughtAtLeast();
        eatNoSuch();
        health();
        meetingReasons();
        hoursOneToSixty();
        hoursTillAllAreOver();
        hungerIs199AtMost();
        winterHours();
        dueByTheDateOrALaterOne();
        coinAsMuch();
        debtByDebt();
        theIllAndDebts();
        undoEightAtMost();
        undoOfEach();
        undoWithoutAny();
        actsBehindAllHours();
        Kit.end();
    }

    /** "To EAT a FOOD: why not, the least: 1 he is ill; 2 there is no portion of it; 3 he has no hunger". */
    private static void eatingReasons() {
        HungerDays x = Kit.of("person a 0 1 0;food f 1 1;food g 1 0;");
        Kit.due("no portion", 2, x.eat(0, 1));
        x.ail(0);
        Kit.due("ill", 1, x.eat(0, 0));
        Kit.due("ill, no portion", 1, x.eat(0, 1));
        x.mend(0);
        Kit.due("the last portion, the last hunger", 0, x.eat(0, 0));
        Kit.due("no portion, no hunger", 2, x.eat(0, 0));
        x.ail(0);
        Kit.due("all three", 1, x.eat(0, 0));
        HungerDays y = Kit.of("person a 0 0 0;food f 1 5;");
        Kit.due("no hunger", 3, y.eat(0, 0));
        Kit.due("no portion is gone", 5, y.food(0, 1));
        Kit.due("he ate none", 0, y.person(0, 4));
    }

    /** "his hunger is less by what it FILLS (0 at least)". */
    private static void hungerIsNoughtAtLeast() {
        int[] hunger = {61, 60, 59, 1, 199};
        int[] want = {1, 0, 0, 0, 139};
        for (int i = 0; i < hunger.length; i++) {
            HungerDays x = Kit.of("person a 0 " + hunger[i] + " 0;food f 60 1;");
            Kit.due("eat", 0, x.eat(0, 0));
            Kit.due("hunger of " + hunger[i], want[i], x.person(0, 0));
            Kit.due("no portion is left", 0, x.food(0, 1));
        }
    }

    /** "NONE: no such ones". */
    private static void eatNoSuch() {
        HungerDays x = Kit.of(FactsEdgeTest.FULL);
        for (int odd : ODD) {
            Kit.due("eat(" + odd + ", 0)", -1, x.eat(odd, 0));
            Kit.due("eat(0, " + odd + ")", -1, x.eat(0, odd));
            Kit.due("ail(" + odd + ")", -1, x.ail(odd));
            Kit.due("mend(" + odd + ")", -1, x.mend(odd));
            Kit.due("meet(" + odd + ")", -1, x.meet(odd));
        }
        Kit.due("eat(0, 4)", -1, x.eat(0, 4));
        Kit.due("eat(5, 3)", 0, x.eat(5, 3));
        Kit.due("ail(5)", 0, x.ail(5));
        Kit.due("mend(5)", 0, x.mend(5));
        Kit.due("eat of no such ones by the ill", -1, x.eat(0, 4));
        HungerDays y = new HungerDays();
        Kit.due("eat(0, 0)", -1, y.eat(0, 0));
        Kit.due("ail(0)", -1, y.ail(0));
        Kit.due("mend(0)", -1, y.mend(0));
        Kit.due("meet(0)", -1, y.meet(0));
        HungerDays z = Kit.of("person a 0 9 0;");
        Kit.due("no foods", -1, z.eat(0, 0));
        Kit.due("no persons", -1, Kit.of("food f 1 1;").eat(0, 0));
    }

    /** "To AIL: 1 he is ill"; "To MEND: 1 he is not ill". */
    private static void health() {
        HungerDays x = Kit.of(FactsEdgeTest.FULL);
        for (int p = 0; p < 6; p++) {
            Kit.due("not ill", 1, x.mend(p));
            Kit.due("ails", 0, x.ail(p));
            Kit.due("is ill", 1, x.ail(p));
            Kit.due("of him alone", 1 << p, x.now(2));
            Kit.due("mends", 0, x.mend(p));
            Kit.due("is not ill", 1, x.mend(p));
        }
    }

    /** "To MEET: 1 the MEETING was held; 2 one of its PERSONS is ill; 3 they are not all of one DATE". */
    private static void meetingReasons() {
        HungerDays x = Kit.of("person a 0 19 0;person b 0 10 0;person c 0 20 0;food f 1 5;"
                + "meeting m a b;meeting n a b c;meeting o c;");
        x.ail(2);
        Kit.due("one who is not of it is ill", 0, x.meet(0));
        Kit.due("it was held", 1, x.meet(0));
        Kit.due("ill and not of one date", 2, x.meet(1));
        Kit.due("he alone is ill", 2, x.meet(2));
        x.ail(0);
        Kit.due("held, one is ill", 1, x.meet(0));
        x.mend(2);
        Kit.due("he alone is always of one date", 0, x.meet(2));
        x.mend(0);
        Kit.due("one is a date later", 3, x.meet(1));
        x.eat(2, 0);
        Kit.due("of one date by a portion", 0, x.meet(1));
        x.eat(1, 0);
        Kit.due("held, not of one date", 1, x.meet(1));
    }

    /** "n (1 to 60) HOURS go by: how many did; NONE: not as told". */
    private static void hoursOneToSixty() {
        HungerDays x = Kit.of(FactsEdgeTest.FULL);
        for (int n : new int[] {0, 61, -1, 600, Integer.MAX_VALUE, Integer.MIN_VALUE}) {
            Kit.due("hours(" + n + ")", -1, x.hours(n));
        }
        Kit.due("no hour", 0, x.now(0));
        Kit.due("nothing to undo", -1, x.undo());
        int hour = 0;
        for (int n : new int[] {1, 60, 2, 59}) {
            Kit.due("hours(" + n + ")", n, x.hours(n));
            hour += n;
            Kit.due("hour", hour, x.now(0));
        }
    }

    /** "An HOUR (0 to 599; 600: all are over)". */
    private static void hoursTillAllAreOver() {
        HungerDays x = Kit.of("span 1;person a 1 0 0;food f 60 5;");
        Kit.goTo(x, 599);
        Kit.due("hour 599", 1, x.hours(60));
        Kit.due("hour 600", 600, x.now(0));
        Kit.due("no more", 0, x.hours(60));
        Kit.due("no more", 0, x.hours(1));
        Kit.due("not as told, all the same", -1, x.hours(0));
        Kit.due("not as told, all the same", -1, x.hours(61));
        Kit.due("hour", 600, x.now(0));
        Kit.due("the last act was the last hour", true, x.undo() >= 0);
        Kit.due("hour", 599, x.now(0));
        HungerDays y = Kit.of("person a 0 0 0;");
        Kit.goTo(y, 541);
        Kit.due("59 hours are left", 59, y.hours(60));
        HungerDays z = Kit.of("person a 0 0 0;");
        Kit.goTo(z, 540);
        Kit.due("60 hours are left", 60, z.hours(60));
        Kit.due("none is", 0, z.hours(60));
    }

    /** "199 at most". */
    private static void hungerIs199AtMost() {
        int[] hunger = {189, 190, 191, 198, 199, 181, 180};
        int[] once = {198, 199, 199, 199, 199, 190, 189};
        int[] twice = {199, 199, 199, 199, 199, 199, 198};
        for (int i = 0; i < hunger.length; i++) {
            HungerDays x = Kit.of("person a 9 " + hunger[i] + " 0;");
            x.hours(1);
            Kit.due("hunger of " + hunger[i], once[i], x.person(0, 0));
            HungerDays y = Kit.of("winter 0 1;person a 9 " + hunger[i] + " 0;");
            y.hours(1);
            Kit.due("hunger of " + hunger[i] + " in winter", twice[i], y.person(0, 0));
        }
        HungerDays z = Kit.of("span 1;person a 0 0 0;person b 9 0 0;");
        Kit.goTo(z, 600);
        Kit.due("he who does not grow hungry", 0, z.person(0, 0));
        Kit.due("he who does", 199, z.person(1, 1));
    }

    /** "twice that in WINTER (HOURS from FROM on, LONG of them)". */
    private static void winterHours() {
        HungerDays x = Kit.of("winter 2 3;person a 1 0 0;");
        int[] want = {1, 2, 4, 6, 8, 9, 10};
        for (int hour = 0; hour < want.length; hour++) {
            Kit.due("winter in hour " + hour, hour >= 2 && hour < 5 ? 1 : 0, x.now(1));
            x.hours(1);
            Kit.due("hunger behind hour " + hour, want[hour], x.person(0, 0));
        }
        HungerDays y = Kit.of("winter 399 200;person a 1 0 0;person b 1 0 0;");
        y.ail(0);
        y.ail(1);
        Kit.goTo(y, 398);
        y.mend(0);
        y.hours(2);
        Kit.due("hunger of hours 398 and 399", 3, y.person(0, 0));
        y.ail(0);
        Kit.goTo(y, 598);
        y.mend(1);
        Kit.due("the last hour of the latest winter", 1, y.now(1));
        y.hours(1);
        Kit.due("no winter in hour 599", 0, y.now(1));
        y.hours(1);
        Kit.due("hunger of hours 598 and 599", 3, y.person(1, 0));
        Kit.due("the ill do not grow hungrier in winter", 3, y.person(0, 0));
        Kit.due("hour 600", 0, y.now(1));
    }

    /** "whose debtor .. has the DATE of the debt or a later one": hunger grows ahead of that. */
    private static void dueByTheDateOrALaterOne() {
        int[] hunger = {17, 18, 19, 20, 30, 199};
        int[] paid = {2, 1, 0, 0, 0, 0};
        for (int i = 0; i < hunger.length; i++) {
            HungerDays x = Kit.of("person a 1 " + hunger[i] + " 5;person b 0 199 0;debt a b 5 2;");
            x.hours(5);
            Kit.due("paid by hunger " + hunger[i], paid[i], x.debt(0, 4));
            Kit.due("coin of b", 5, x.person(1, 3));
        }
        HungerDays y = Kit.of("person a 9 0 5;person b 0 0 0;debt a b 5 199;");
        Kit.goTo(y, 600);
        Kit.due("a date that nobody can have by span 10", -1, y.debt(0, 4));
        HungerDays z = Kit.of("span 1;person a 1 0 5;person b 0 0 0;debt a b 5 199;");
        Kit.goTo(z, 600);
        Kit.due("date 199 comes with hour 198", 198, z.debt(0, 4));
    }

    /** "if his coin is as much, he pays it to the other one (else it stays DUE)". */
    private static void coinAsMuch() {
        int[] coin = {249, 250, 251, 999};
        for (int c : coin) {
            HungerDays x = Kit.of("person a 0 0 " + c + ";person b 0 0 999;debt a b 250 0;");
            x.hours(2);
            Kit.due("paid with " + c, c < 250 ? -1 : 0, x.debt(0, 4));
            Kit.due("coin of a", c < 250 ? c : c - 250, x.person(0, 3));
            Kit.due("coin of b", c < 250 ? 999 : 1249, x.person(1, 3));
            Kit.due("stays due", c < 250 ? 1 : 0, x.debt(0, 5));
            Kit.due("hours in which it was not paid", c < 250 ? 2 : 0, x.now(7));
            Kit.due("owes yet", c < 250 ? 250 : 0, x.person(0, 7));
        }
    }

    /** "Then debt by debt": what one has by an earlier debt, he can pay a later one with, in the same HOUR. */
    private static void debtByDebt() {
        HungerDays x = Kit.of("person a 0 0 5;person b 0 0 0;person c 0 0 0;debt a b 5 0;debt b c 5 0;debt c a 5 0;");
        x.hours(1);
        Kit.due("all three in one hour", 7, x.now(4));
        Kit.due("no hour with one not paid", 0, x.now(7));
        Kit.due("coin is with a again", 5, x.person(0, 3));
        HungerDays y = Kit.of("person a 0 0 5;person b 0 0 0;person c 0 0 0;debt c a 5 0;debt b c 5 0;debt a b 5 0;");
        y.hours(1);
        Kit.due("the last alone", 4, y.now(4));
        y.hours(1);
        Kit.due("then the second", 6, y.now(4));
        y.hours(1);
        Kit.due("then the first", 7, y.now(4));
        Kit.due("two hours with some not paid", 2, y.now(7));
        HungerDays z = Kit.of("person a 0 0 5;person b 0 0 0;person c 0 0 0;debt a b 3 0;debt a c 3 0;");
        z.hours(1);
        Kit.due("coin for the first alone", 1, z.now(4));
        Kit.due("what is left", 2, z.person(0, 3));
        HungerDays w = Kit.of("person a 0 0 5;person b 0 0 0;person c 0 0 0;debt a b 6 0;debt a c 3 0;");
        w.hours(1);
        Kit.due("one that is too dear lets the next be paid", 2, w.now(4));
        Kit.due("an hour with one not paid", 1, w.now(7));
    }

    /** "whose debtor is not ill": the other one may be. */
    private static void theIllAndDebts() {
        HungerDays x = Kit.of("person a 0 50 9;person b 0 50 9;debt a b 5 0;debt b a 4 0;");
        x.ail(0);
        x.hours(1);
        Kit.due("the debt of b to the ill one is paid", 2, x.now(4));
        Kit.due("coin of the ill one", 13, x.person(0, 3));
        Kit.due("his own is not due", 0, x.debt(0, 5));
        Kit.due("no hour counts", 0, x.now(7));
        x.mend(0);
        x.hours(1);
        Kit.due("then it is paid", 1, x.debt(0, 4));
    }

    /** "how many more can be (8 at most are kept)": nine acts, of which the first stays; the ring goes round often. */
    private static void undoEightAtMost() {
        for (int acts = 1; acts <= 20; acts++) {
            HungerDays x = Kit.of("person a 1 0 0;");
            for (int i = 0; i < acts; i++) {
                x.hours(1);
            }
            for (int more = Math.min(8, acts) - 1; more >= 0; more--) {
                Kit.due("more to be undone of " + acts, more, x.undo());
                Kit.due("hour", Math.max(0, acts - 8) + more, x.now(0));
            }
            Kit.due("none is", -1, x.undo());
            Kit.due("hour stays", Math.max(0, acts - 8), x.now(0));
            x.hours(5);
            x.hours(6);
            Kit.due("acts behind undone ones", 1, x.undo());
            Kit.due("hour", Math.max(0, acts - 8) + 5, x.now(0));
        }
    }

    /** "eat(), ail(), mend(), meet() that was done, hours() above 0, drawn() above 0, a BOOK that was lived". */
    private static void undoOfEach() {
        String text = FactsEdgeTest.FULL;
        for (int act = 0; act < 7; act++) {
            HungerDays x = Kit.of(text);
            HungerDays twin = Kit.of(text);
            for (HungerDays each : new HungerDays[] {x, twin}) {
                each.ail(2);
                Kit.sentence(each, "ill");
                Kit.book(each, "hour 1;", 0);
            }
            switch (act) {
                case 0 -> x.eat(0, 0);
                case 1 -> x.ail(0);
                case 2 -> x.mend(2);
                case 3 -> x.meet(1);
                case 4 -> x.hours(60);
                case 5 -> x.drawn(60, 5);
                default -> Kit.book(x, "hour 1;", 1);
            }
            Kit.due("act " + act + " tells", false, Kit.seen(twin).equals(Kit.seen(x)));
            Kit.due("undo of act " + act, 1, x.undo());
            Kit.due("all is as ahead of act " + act, true, Kit.seen(twin).equals(Kit.seen(x)));
        }
    }

    /** "NONE: none is": acts that were not done, calls that tell are none. */
    private static void undoWithoutAny() {
        HungerDays x = Kit.of("person a 0 0 0;person b 0 50 0;food f 1 1;food g 1 0;meeting m a b;debt a b 1 1;");
        Kit.due("none", -1, x.undo());
        x.eat(0, 0);
        x.eat(1, 1);
        x.eat(2, 0);
        x.mend(0);
        x.ail(9);
        x.meet(0);
        x.meet(7);
        x.hours(0);
        x.hours(61);
        x.drawn(0, 1);
        x.drawn(61, 1);
        x.odds(0, 30, 1);
        Kit.book(x, "hour 1;", 0);
        Kit.book(x, "hour 1", 1);
        x.book(2);
        x.end(0);
        Kit.sentence(x, "ill");
        x.image(0);
        x.table(3);
        Kit.due("none", -1, x.undo());
        Kit.due("none again", -1, x.undo());
        x.ail(0);
        Kit.valley(x, "?");
        Kit.due("a valley with a fault leaves it", 0, x.undo());
        x.ail(0);
        Kit.valley(x, "person a 1 1 1;");
        Kit.due("a new valley does not", -1, x.undo());
        Kit.due("nobody is ill", 0, x.now(2));
    }

    /** "600: all are over": no HOUR goes, but all else may be done. */
    private static void actsBehindAllHours() {
        HungerDays x = Kit.of("person a 1 0 0;food f 60 5;meeting m a;");
        Kit.goTo(x, 600);
        Kit.due("eat", 0, x.eat(0, 0));
        Kit.due("hunger", 139, x.person(0, 0));
        Kit.due("meet", 0, x.meet(0));
        Kit.due("held in hour", 600, x.meeting(0, 1));
        Kit.due("ail", 0, x.ail(0));
        Kit.due("mend", 0, x.mend(0));
        Kit.due("undo", true, x.undo() > 0);
        Kit.due("hour", 600, x.now(0));
    }
}
