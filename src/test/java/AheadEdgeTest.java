/** Edges of promises 25 to 33: what will be, shares, clashes, stores, draws. */
final class AheadEdgeTest {
    private static final int[] ODD = {-1, -2, 6, 32, Integer.MAX_VALUE, Integer.MIN_VALUE};

    public static void main(String[] args) {
        twinsFromNowOn();
        twinsOfWhom();
        lateOfAll();
        lateOfWhichDates();
        aheadTillHour600();
        shareOfHowMuch();
        shareOfRests();
        shareWithoutHunger();
        clashByTheDate();
        clashByNumber();
        keepsByTheFirstAndTheMost();
        keepsTwoHundredAtMost();
        keepsTillHour600();
        keepsOfWhichDates();
        laterOfWhichHours();
        paidInWhichHour();
        drawnOneToSixty();
        drawnTillHour600();
        drawnWraps();
        oddsOfHowMany();
        Kit.end();
    }

    /** "the first HOUR (from now on, 200 HOURS at most ..) at whose beginning two PERSONS are of one DATE". */
    private static void twinsFromNowOn() {
        HungerDays x = Kit.of("person a 1 0 0;person b 2 0 0;person c 0 9 0;person d 0 10 0;person e 0 199 0;");
        Kit.due("now", 0, x.twins(0, 1));
        Kit.due("now", 0, x.twins(0, 2));
        Kit.due("behind ten hours", 10, x.twins(0, 3));
        Kit.due("behind five hours", 5, x.twins(1, 3));
        Kit.due("never", -1, x.twins(2, 3));
        Kit.due("behind 190 hours", 190, x.twins(0, 4));
        x.hours(20);
        Kit.due("it is past: not now, at the end", 190, x.twins(0, 1));
        Kit.due("it is past for ever", -1, x.twins(0, 3));
        HungerDays y = Kit.of("span 1;winter 3 1;person a 1 0 0;person b 0 5 0;person c 0 4 0;");
        Kit.due("winter brings it", 4, y.twins(0, 1));
        Kit.due("winter leaps over it", -1, y.twins(0, 2));
        y.ail(0);
        Kit.due("the ill stay", -1, y.twins(0, 1));
        HungerDays z = Kit.of("span 1;person a 1 0 0;person b 0 199 0;");
        Kit.due("behind 199 hours", 199, z.twins(0, 1));
        Kit.due("behind 199 hours", 199, z.twins(1, 0));
    }

    /** "NONE: .. no such ones, alike". */
    private static void twinsOfWhom() {
        HungerDays x = Kit.of(FactsEdgeTest.FULL);
        for (int odd : ODD) {
            Kit.due("twins(" + odd + ", 0)", -1, x.twins(odd, 0));
            Kit.due("twins(0, " + odd + ")", -1, x.twins(0, odd));
            Kit.due("twins(" + odd + ", " + odd + ")", -1, x.twins(odd, odd));
        }
        for (int p = 0; p < 6; p++) {
            Kit.due("alike", -1, x.twins(p, p));
        }
        Kit.due("the last two", 0, x.twins(4, 5));
        Kit.due("nobody", -1, new HungerDays().twins(0, 1));
    }

    /** "the first HOUR (likewise) at whose beginning all PERSONS have a DATE or a later one". */
    private static void lateOfAll() {
        HungerDays x = Kit.of("person a 1 0 0;person b 2 30 0;");
        Kit.due("now", 0, x.late(0));
        Kit.due("date 1", 10, x.late(1));
        Kit.due("date 19", 190, x.late(19));
        Kit.due("date 20 is never", -1, x.late(20));
        x.hours(9);
        Kit.due("date 1", 10, x.late(1));
        x.hours(1);
        Kit.due("now", 10, x.late(1));
        x.ail(0);
        Kit.due("the ill are of all", 10, x.late(1));
        Kit.due("the ill keep all from it", -1, x.late(2));
    }

    /** "a DATE (0 to 199) ..; NONE: .. no PERSONS, no such one". */
    private static void lateOfWhichDates() {
        HungerDays x = Kit.of("span 1;person a 0 199 0;");
        for (int date = 0; date < 200; date++) {
            Kit.due("late(" + date + ")", 0, x.late(date));
        }
        for (int date : new int[] {200, 201, -1, Integer.MAX_VALUE, Integer.MIN_VALUE}) {
            Kit.due("late(" + date + ")", -1, x.late(date));
        }
        Kit.due("no persons", -1, new HungerDays().late(0));
        Kit.due("no persons", -1, Kit.of("food f 1 1;").late(0));
    }

    /** "HOUR 600, too": at its beginning, but no later. */
    private static void aheadTillHour600() {
        for (int mended = 595; mended <= 600; mended++) {
            HungerDays x = Kit.of("span 1;person a 1 0 5;person b 0 3 0;debt a b 5 3;");
            x.ail(0);
            Kit.goTo(x, mended);
            x.mend(0);
            Kit.due("twins of " + mended, mended <= 597 ? mended + 3 : -1, x.twins(0, 1));
            Kit.due("late of " + mended, mended <= 597 ? mended + 3 : -1, x.late(3));
            Kit.due("paid of " + mended, mended <= 597 ? mended + 2 : -1, x.paid(0));
            Kit.due("later of " + mended, Math.min(600 - mended, 3), x.later(0, Math.min(600, mended + 3)));
            Kit.due("keeps of " + mended, Math.min(600 - mended, 5), x.keeps(5));
        }
        HungerDays y = Kit.of("person a 1 0 0;person b 2 0 0;");
        Kit.goTo(y, 600);
        Kit.due("now is hour 600", 600, y.twins(0, 1));
        Kit.due("now is hour 600", 600, y.late(19));
        Kit.due("now is hour 600", 19, y.later(0, 600));
    }

    /** "a cheese of w (0 to 999); NONE: he is ill, no such ones". */
    private static void shareOfHowMuch() {
        HungerDays x = Kit.of("person a 0 199 0;person b 0 199 0;person c 0 199 0;person d 0 199 0;person e 0 199 0;"
                + "person f 0 199 0;");
        int[] cheese = {0, 1, 5, 6, 7, 999};
        int[][] want = {{0, 0, 0, 0, 0, 0}, {1, 0, 0, 0, 0, 0}, {1, 1, 1, 1, 1, 0}, {1, 1, 1, 1, 1, 1},
            {2, 1, 1, 1, 1, 1}, {167, 167, 167, 166, 166, 166}};
        for (int i = 0; i < cheese.length; i++) {
            for (int p = 0; p < 6; p++) {
                Kit.due("share(" + cheese[i] + ", " + p + ")", want[i][p], x.share(cheese[i], p));
            }
        }
        for (int w : new int[] {1000, -1, Integer.MAX_VALUE, Integer.MIN_VALUE}) {
            Kit.due("share(" + w + ", 0)", -1, x.share(w, 0));
        }
        for (int odd : ODD) {
            Kit.due("share(5, " + odd + ")", -1, x.share(5, odd));
        }
        x.ail(5);
        Kit.due("he is ill", -1, x.share(5, 5));
        Kit.due("he is ill", -1, x.share(0, 5));
        Kit.due("the others share all", 1, x.share(5, 4));
        x.ail(0);
        x.ail(1);
        x.ail(2);
        x.ail(3);
        Kit.due("all of it for one", 999, x.share(999, 4));
        Kit.due("nobody", -1, new HungerDays().share(0, 0));
    }

    /** "w by his hunger by all their hungers (cut); what is left 1 by 1 to those with the greatest rest .., each once". */
    private static void shareOfRests() {
        int[][] hunger = {{1, 2, 4}, {4, 2, 1}, {1, 1, 198}, {0, 7, 0}, {199, 1, 0}, {3, 3, 1}, {2, 3, 5}};
        int[] cheese = {10, 10, 100, 999, 199, 5, 9};
        int[][] want = {{1, 3, 6}, {6, 3, 1}, {1, 0, 99}, {0, 999, 0}, {198, 1, 0}, {2, 2, 1}, {2, 3, 4}};
        for (int i = 0; i < hunger.length; i++) {
            HungerDays x = Kit.of("person a 0 " + hunger[i][0] + " 0;person b 0 " + hunger[i][1] + " 0;person c 0 "
                    + hunger[i][2] + " 0;");
            for (int p = 0; p < 3; p++) {
                Kit.due("share of " + cheese[i] + " in case " + i + " of " + p, want[i][p], x.share(cheese[i], p));
            }
        }
    }

    /** "nobody has hunger: nothing". */
    private static void shareWithoutHunger() {
        HungerDays x = Kit.of("person a 0 0 0;person b 0 0 0;person c 0 5 0;");
        x.ail(2);
        Kit.due("share of a", 0, x.share(999, 0));
        Kit.due("share of b", 0, x.share(999, 1));
        Kit.due("share of the ill one", -1, x.share(999, 2));
        x.mend(2);
        Kit.due("share of one without hunger", 0, x.share(999, 0));
        Kit.due("share of c", 999, x.share(999, 2));
    }

    /** "he who should have it has its DATE or a later one now, he who owes it has not". */
    private static void clashByTheDate() {
        int[][] hunger = {{19, 20}, {20, 20}, {19, 19}, {20, 19}, {0, 199}, {199, 0}, {10, 30}, {29, 30}};
        int[] want = {1, 0, 0, 0, 1, 0, 1, 0};
        for (int i = 0; i < hunger.length; i++) {
            HungerDays x = Kit.of("person a 0 " + hunger[i][0] + " 0;person b 0 " + hunger[i][1] + " 0;debt a b 1 2;");
            Kit.due("clash of case " + i, want[i], x.clash(-1));
            Kit.due("the first of case " + i, want[i] - 1, x.clash(0));
        }
        HungerDays y = Kit.of("person a 0 0 0;person b 0 99 0;debt a b 1 0;");
        Kit.due("by date 0 nothing can clash", 0, y.clash(-1));
    }

    /** "how many debts (k NONE), or the k-th. NONE: none such": ten that all clash. */
    private static void clashByNumber() {
        HungerDays x = Kit.of("person a 0 0 0;person b 0 10 0;person c 0 20 0;person d 0 30 0;person e 0 40 0;"
                + "person f 0 50 0;debt a b 1 1;debt a c 1 1;debt a d 1 1;debt a e 1 1;debt a f 1 5;debt b c 1 2;"
                + "debt b d 1 2;debt b e 1 2;debt b f 1 2;debt c d 1 3;");
        Kit.due("all ten", 10, x.clash(-1));
        for (int k = 0; k < 10; k++) {
            Kit.due("clash(" + k + ")", k, x.clash(k));
        }
        for (int k : new int[] {10, 11, 32, -2, Integer.MAX_VALUE, Integer.MIN_VALUE}) {
            Kit.due("clash(" + k + ")", -1, x.clash(k));
        }
        HungerDays y = Kit.of("person a 0 0 0;person b 0 10 0;debt b a 1 1;debt a b 1 1;");
        Kit.due("one", 1, y.clash(-1));
        Kit.due("the second debt", 1, y.clash(0));
        Kit.due("none such", -1, y.clash(1));
        Kit.due("none at all", 0, new HungerDays().clash(-1));
        Kit.due("none such", -1, new HungerDays().clash(0));
    }

    /** "the first such one eats the FOOD of which most are left (of like ones the first)". */
    private static void keepsByTheFirstAndTheMost() {
        Kit.due("the most first", 35, Kit.of("span 1;person a 1 15 0;food f 20 3;food g 5 1;").keeps(10));
        Kit.due("the most first", 35, Kit.of("span 1;person a 1 15 0;food f 5 1;food g 20 3;").keeps(10));
        Kit.due("of like ones the first", 15, Kit.of("span 1;person a 1 15 0;food f 20 1;food g 5 1;").keeps(10));
        Kit.due("of like ones the first", 10, Kit.of("span 1;person a 1 15 0;food f 5 1;food g 20 1;").keeps(10));
        Kit.due("as long as he has it", 11, Kit.of("span 1;person a 1 15 0;food f 5 1;food g 1 1;food h 10 1;").keeps(10));
        Kit.due("the first of two", 0, Kit.of("span 1;person a 1 40 0;person b 1 10 0;food f 30 1;").keeps(10));
        Kit.due("the second of two", 0, Kit.of("span 1;person a 0 10 0;person b 0 10 0;food f 1 1;").keeps(10));
        Kit.due("both", 200, Kit.of("span 1;person a 0 10 0;person b 0 10 0;food f 1 2;").keeps(10));
        Kit.due("twenty portions in one hour", 200, Kit.of("span 1;person a 0 20 0;food f 1 5;food g 1 5;food h 1 5;"
                + "food i 1 5;").keeps(1));
        Kit.due("one more", 0, Kit.of("span 1;person a 0 21 0;food f 1 5;food g 1 5;food h 1 5;food i 1 5;").keeps(1));
    }

    /** "How many HOURS go by till somebody has it all the same (200 at most; 0: now ..)". */
    private static void keepsTwoHundredAtMost() {
        Kit.due("199", 199, Kit.of("span 1;person a 1 0 0;").keeps(199));
        Kit.due("200", 200, Kit.of("span 1;person a 1 0 0;food f 1 1;").keeps(199));
        Kit.due("200 at most", 200, Kit.of("span 1;person a 1 0 0;food f 1 2;").keeps(199));
        Kit.due("200 at most", 200, Kit.of("span 1;person a 1 0 0;food f 60 5;").keeps(199));
        Kit.due("never hungry", 200, Kit.of("person a 0 0 0;").keeps(1));
        Kit.due("nobody", 200, new HungerDays().keeps(1));
        Kit.due("now", 0, Kit.of("person a 0 10 0;").keeps(1));
        Kit.due("now, with a portion that is too small", 0, Kit.of("person a 0 20 0;food f 10 1;").keeps(1));
        Kit.due("one hour", 1, Kit.of("person a 1 9 0;").keeps(1));
        HungerDays x = Kit.of("person a 0 99 0;person b 1 0 0;food f 60 5;");
        x.ail(0);
        Kit.due("the ill do not eat", 60, x.keeps(1));
        Kit.due("all portions are there yet", 5, x.food(0, 1));
    }

    /** "fewer, if HOUR 600 comes". */
    private static void keepsTillHour600() {
        for (int left = 0; left <= 3; left++) {
            HungerDays x = Kit.of("person a 0 0 0;");
            Kit.goTo(x, 600 - left);
            Kit.due("hours left", left, x.keeps(1));
        }
        HungerDays y = Kit.of("person a 0 0 0;");
        Kit.goTo(y, 399);
        Kit.due("200 at most", 200, y.keeps(1));
        y.hours(1);
        Kit.due("just 200", 200, y.keeps(1));
        y.hours(1);
        Kit.due("199", 199, y.keeps(1));
        HungerDays z = Kit.of("person a 0 10 0;");
        Kit.goTo(z, 600);
        Kit.due("somebody has it in hour 600", 0, z.keeps(1));
    }

    /** "a DATE (1 to 199): HOURS; NONE: no such one". */
    private static void keepsOfWhichDates() {
        HungerDays x = Kit.of("span 1;person a 1 0 0;");
        for (int date = 1; date < 200; date++) {
            Kit.due("keeps(" + date + ")", date, x.keeps(date));
        }
        for (int date : new int[] {0, -1, 200, 201, Integer.MAX_VALUE, Integer.MIN_VALUE}) {
            Kit.due("keeps(" + date + ")", -1, x.keeps(date));
        }
    }

    /** "at the beginning of HOUR h ..; NONE: it is past (or above 600), no such ones". */
    private static void laterOfWhichHours() {
        HungerDays x = Kit.of("span 1;person a 1 0 0;person b 0 7 0;");
        x.hours(50);
        Kit.due("past", -1, x.later(0, 49));
        Kit.due("now", 50, x.later(0, 50));
        Kit.due("next", 51, x.later(0, 51));
        Kit.due("198", 198, x.later(0, 198));
        Kit.due("199", 199, x.later(0, 199));
        Kit.due("200", 199, x.later(0, 200));
        Kit.due("599", 199, x.later(0, 599));
        Kit.due("600", 199, x.later(0, 600));
        for (int hour : new int[] {601, 0, -1, Integer.MAX_VALUE, Integer.MIN_VALUE}) {
            Kit.due("later(0, " + hour + ")", -1, x.later(0, hour));
        }
        for (int odd : ODD) {
            Kit.due("later(" + odd + ", 60)", -1, x.later(odd, 60));
        }
        Kit.due("later(2, 60)", -1, x.later(2, 60));
        Kit.due("later(1, 60)", 7, x.later(1, 60));
        Kit.due("hour stays", 50, x.now(0));
    }

    /** "The first HOUR (from now on) ..; NONE: it is paid already, never, no such one". */
    private static void paidInWhichHour() {
        HungerDays x = Kit.of("person a 1 8 5;person b 1 0 0;person c 0 0 0;debt a b 5 1;debt b c 5 1;debt c a 6 0;");
        Kit.due("hour 1", 1, x.paid(0));
        Kit.due("hour 9", 9, x.paid(1));
        Kit.due("never", -1, x.paid(2));
        for (int d : new int[] {3, -1, 10, Integer.MAX_VALUE, Integer.MIN_VALUE}) {
            Kit.due("paid(" + d + ")", -1, x.paid(d));
        }
        x.hours(1);
        Kit.due("now is hour 1", 1, x.paid(0));
        x.hours(1);
        Kit.due("paid already", -1, x.paid(0));
        Kit.due("hour 9 yet", 9, x.paid(1));
        HungerDays y = Kit.of("person a 0 0 0;person b 0 0 250;debt a b 250 0;debt b a 250 0;");
        Kit.due("as soon as he has coin", 1, y.paid(0));
        Kit.due("at once", 0, y.paid(1));
        HungerDays z = Kit.of("person a 0 0 9;person b 0 0 0;debt a b 5 0;");
        z.ail(0);
        Kit.goTo(z, 599);
        Kit.due("the ill never pay", -1, z.paid(0));
        z.mend(0);
        Kit.due("in hour 599", 599, z.paid(0));
        z.ail(0);
        z.hours(1);
        z.mend(0);
        Kit.due("hour 600 is none in which one pays", -1, z.paid(0));
        Kit.due("no debts", -1, new HungerDays().paid(0));
    }

    /** "n (1 to 60) HOURS DRAWN by a seed: how many went by; NONE: not as told, no FOODS". */
    private static void drawnOneToSixty() {
        HungerDays x = Kit.of(Kit.VALLEY);
        for (int n : new int[] {0, -1, 61, Integer.MAX_VALUE, Integer.MIN_VALUE}) {
            Kit.due("drawn(" + n + ", 1)", -1, x.drawn(n, 1));
            Kit.due("hour", 0, x.now(0));
        }
        Kit.due("nothing to undo", -1, x.undo());
        Kit.due("drawn(1, 1)", 1, x.drawn(1, 1));
        Kit.due("hour", 1, x.now(0));
        Kit.due("drawn(60, 1)", 60, x.drawn(60, 1));
        Kit.due("hour", 61, x.now(0));
        HungerDays y = Kit.of("person a 1 1 1;meeting m a;");
        Kit.due("no foods", -1, y.drawn(1, 1));
        Kit.due("no foods", -1, y.drawn(60, 1));
        Kit.due("hour", 0, y.now(0));
        HungerDays z = Kit.of("food f 1 0;");
        Kit.due("nobody", 60, z.drawn(60, 1));
        Kit.due("hour", 60, z.now(0));
    }

    /** "how many went by": fewer, if HOUR 600 comes. */
    private static void drawnTillHour600() {
        HungerDays x = Kit.of("person a 1 1 1;food f 1 0;meeting m a;");
        Kit.goTo(x, 597);
        Kit.due("three hours are left", 3, x.drawn(60, 1));
        Kit.due("hour", 600, x.now(0));
        Kit.due("none is", 0, x.drawn(60, 1));
        Kit.due("none is", 0, x.drawn(1, 1));
        Kit.due("not as told", -1, x.drawn(0, 1));
        x.undo();
        Kit.due("none is no act", 597, x.now(0));
        HungerDays y = Kit.of("person a 1 1 1;");
        Kit.goTo(y, 600);
        Kit.due("no foods", -1, y.drawn(1, 1));
    }

    /** "x becomes x * 1103515245 + 12345 (an int, wrapping), the draw is (x >>> 8) % n": seeds of all sizes. */
    private static void drawnWraps() {
        int[] seeds = {0, 1, -1, 255, 256, Integer.MAX_VALUE, Integer.MIN_VALUE, Integer.MIN_VALUE + 1, 1103515245, 7};
        for (int seed : seeds) {
            HungerDays x = Kit.of("span 1;person a 1 100 0;person b 2 100 0;food f 7 5;food g 9 5;food h 11 5;");
            x.drawn(60, seed);
            long draw = seed;
            int[] hunger = {100, 100};
            int[] left = {5, 5, 5};
            boolean[] ill = {false, false};
            for (int hour = 0; hour < 60; hour++) {
                for (int p = 0; p < 2; p++) {
                    draw = draw * 1103515245L + 12345L & 0xffffffffL;
                    long act = (draw >> 8) % 8;
                    if (act == 0) {
                        draw = draw * 1103515245L + 12345L & 0xffffffffL;
                        int f = (int) ((draw >> 8) % 3);
                        if (!ill[p] && left[f] > 0 && hunger[p] > 0) {
                            left[f]--;
                            hunger[p] = Math.max(0, hunger[p] - 7 - 2 * f);
                        }
                    } else if (act == 1) {
                        ill[p] = !ill[p];
                    }
                }
                for (int p = 0; p < 2; p++) {
                    hunger[p] = ill[p] ? hunger[p] : Math.min(199, hunger[p] + 1 + p);
                }
            }
            for (int p = 0; p < 2; p++) {
                Kit.due("hunger of " + p + " by seed " + seed, hunger[p], x.person(p, 0));
                Kit.due("ill by seed " + seed, ill[p] ? 1 : 0, x.person(p, 2));
            }
            for (int f = 0; f < 3; f++) {
                Kit.due("portions by seed " + seed, left[f], x.food(f, 1));
            }
        }
    }

    /** "Of n (1 to 30) seeds x, x and 1, .. behind 20 HOURS ..; NONE: no such ones, no FOODS". */
    private static void oddsOfHowMany() {
        HungerDays x = Kit.of("person a 0 0 0;meeting m a;food f 1 1;");
        for (int seed : new int[] {7, -15, Integer.MAX_VALUE - 29, Integer.MAX_VALUE - 15, Integer.MAX_VALUE}) {
            Kit.due("one seed", heldOf(1, seed), x.odds(0, 1, seed));
            Kit.due("thirty seeds", heldOf(30, seed), x.odds(0, 30, seed));
        }
        for (int n : new int[] {0, -1, 31, Integer.MAX_VALUE, Integer.MIN_VALUE}) {
            Kit.due("odds(0, " + n + ", 7)", -1, x.odds(0, n, 7));
        }
        for (int m : new int[] {1, -1, 6, Integer.MAX_VALUE, Integer.MIN_VALUE}) {
            Kit.due("odds(" + m + ", 1, 7)", -1, x.odds(m, 1, 7));
        }
        Kit.due("no foods", -1, Kit.of("person a 0 0 0;meeting m a;").odds(0, 1, 7));
        Kit.due("no meetings", -1, Kit.of("person a 0 0 0;food f 1 1;").odds(0, 1, 7));
        Kit.goTo(x, 600);
        Kit.due("no hours are left", 0, x.odds(0, 30, 7));
        x.meet(0);
        Kit.due("held already", 30, x.odds(0, 30, 7));
        HungerDays y = Kit.of("person a 0 0 0;meeting m a;food f 1 1;");
        Kit.goTo(y, 599);
        int held = 0;
        for (int seed = 0; seed < 30; seed++) {
            held += (seed * 1103515245 + 12345 >>> 8) % 8 == 1 ? 0 : 1;
        }
        Kit.due("one hour is left", held, y.odds(0, 30, 0));
        Kit.due("the hour stays", 599, y.now(0));
    }

    /** By how many seeds one who is alone in a meeting, and never hungry, is not ill in all of 20 hours. */
    private static int heldOf(int seeds, int first) {
        int held = 0;
        for (int i = 0; i < seeds; i++) {
            int draw = first + i;
            boolean ill = false;
            boolean isHeld = false;
            for (int hour = 0; hour < 20; hour++) {
                draw = draw * 1103515245 + 12345;
                int act = (draw >>> 8) % 8;
                draw = act == 0 ? draw * 1103515245 + 12345 : draw;
                ill ^= act == 1;
                isHeld |= !ill;
            }
            held += isHeld ? 1 : 0;
        }
        return held;
    }
}
