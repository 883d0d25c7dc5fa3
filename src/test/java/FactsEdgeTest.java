/** Edges of promises 1 to 10, 17, 18 and 40: the tape, and what is told of persons, foods, meetings, debts, now. */
final class FactsEdgeTest {
    /** As many of all as may be; the numbers of each are told by what it has. */
    static final String FULL = "span 20;winter 1 2;person a 0 199 999;person b 9 190 999;person c 1 0 0;"
            + "person d 2 19 0;person e 3 20 0;person f 4 39 7;food g 60 5;food h 1 5;food i 2 5;food j 3 5;"
            + "meeting k a b c d e f;meeting l f;meeting m c d f;meeting n a b f;meeting o e f;meeting p b c f;"
            + "debt a b 250 9;debt b a 249 9;debt a c 248 9;debt b c 247 9;debt c a 1 199;debt f a 7 1;"
            + "debt f b 1 1;debt e f 250 1;debt d f 3 9;debt f e 2 0;";
    private static final int[] ODD = {-1, -2, 6, 10, 32, 33, Integer.MAX_VALUE, Integer.MIN_VALUE};

    public static void main(String[] args) {
        newObject();
        feedUpTo940();
        feedHighestFirst();
        endOfTheTape();
        callsThatEmptyTheTape();
        faultOfTheLatest();
        persons();
        noSuchPersons();
        foods();
        meetings();
        debts();
        noSuchDebts();
        now();
        portionsAndCoinOfThisValleyAlone();
        hoursWithDebtsNotPaid();
        on();
        common();
        counts();
        newValley();
        Kit.end();
    }

    /** "An empty VALLEY; an empty tape": as a VALLEY of no bytes. */
    private static void newObject() {
        HungerDays x = new HungerDays();
        HungerDays y = new HungerDays();
        Kit.due("valley of no bytes", 0, y.valley());
        Kit.due("a new object is of an empty valley", true, Kit.seen(x).equals(Kit.seen(y)));
        Kit.due("on(0)", 0, x.on(0));
        Kit.due("common()", -1, x.common());
        Kit.due("hours(60)", 60, x.hours(60));
        Kit.due("undo()", 0, x.undo());
        Kit.due("sentence", 1, Kit.sentence(x, "ill"));
        Kit.due("of nobody", 0, x.said(-1));
        Kit.due("of nobody", -1, x.said(0));
    }

    /** "NONE, and none come, if it would have more than 940". */
    private static void feedUpTo940() {
        HungerDays x = new HungerDays();
        for (int size = 20; size <= 940; size += 20) {
            Kit.due("feed", size, x.feed(0x20202020, 0x20202020, 0x20202020, 0x20202020, 0x20202020));
        }
        Kit.due("none come", -1, x.feed(0x41414141, 0x41414141, 0x41414141, 0x41414141, 0x41414141));
        Kit.due("the tape", 940, x.count(5));
        for (int size = 939; size > 920; size--) {
            Kit.due("end", true, x.end(size));
            Kit.due("none come behind " + size, -1, x.feed(0x41414141, 0x41414141, 0x41414141, 0x41414141, 0x41414141));
            Kit.due("the tape", size, x.count(5));
        }
        x.end(900);
        Kit.due("no byte came: blanks alone", 0, x.valley());
        Kit.due("the tape is empty", 20, x.feed(0, 0, 0, 0, 0));
        HungerDays y = new HungerDays();
        for (int i = 0; i < 47; i++) {
            y.feed(0, 0, 0, 0, 0);
        }
        y.end(920);
        Kit.due("just 940", 940, y.feed(0, 0, 0, 0, 0));
    }

    /** "Twenty bytes come .., of each number the highest first": bytes above 127, too. */
    private static void feedHighestFirst() {
        HungerDays x = new HungerDays();
        x.feed(0x666f6f64, 0x20612031, 0x20353b66, 0x6f6f6420, 0x6220390a);
        x.feed(0x343b2020, 0x20202020, 0x20202020, 0x20202020, 0x20202020);
        Kit.due("food a 1 5;food b 9 4;", 2, x.valley());
        Kit.due("fills", 1, x.food(0, 0));
        Kit.due("portions", 4, x.food(1, 1));
        x.feed(0xc7ffffff, -1, -1, -1, -1);
        x.end(2);
        Kit.due("bytes 199 and 255", 0, x.ate());
        x.feed(0xc8000000, 0, 0, 0, 0);
        x.end(2);
        Kit.due("byte 200 is no hunger", -1, x.ate());
        x.feed(0xff000000, 0, 0, 0, 0);
        x.end(2);
        Kit.due("byte 255 is no hunger", -1, x.ate());
    }

    /** "true; false, if it has not so many, or n is below 0". */
    private static void endOfTheTape() {
        HungerDays x = new HungerDays();
        x.feed(0x61626364, 0, 0, 0, 0);
        for (int n : new int[] {21, 940, Integer.MAX_VALUE, -1, Integer.MIN_VALUE}) {
            Kit.due("end(" + n + ")", false, x.end(n));
            Kit.due("the tape stays", 20, x.count(5));
        }
        for (int n = 20; n >= 0; n--) {
            Kit.due("end(" + n + ")", true, x.end(n));
            Kit.due("the tape", n, x.count(5));
            Kit.due("no more than there are", false, x.end(n + 1));
        }
        Kit.due("feed of an empty tape", 20, x.feed(1, 2, 3, 4, 5));
    }

    /** "The tape (empty then, here and below)": with a FAULT, with NONE, too. */
    private static void callsThatEmptyTheTape() {
        HungerDays x = Kit.of(Kit.VALLEY);
        String[] texts = {"span 5;", "?", "person a 1 1 1;", " \n"};
        for (String text : texts) {
            Kit.put(x, text);
            x.valley();
            Kit.due("valley of " + text, 0, x.count(5));
            Kit.put(x, text);
            x.book(0);
            Kit.due("book of " + text, 0, x.count(5));
            Kit.put(x, text);
            x.book(1);
            Kit.due("book lived of " + text, 0, x.count(5));
            Kit.put(x, text);
            x.sentence();
            Kit.due("sentence of " + text, 0, x.count(5));
            Kit.put(x, text);
            x.ate();
            Kit.due("ate of " + text, 0, x.count(5));
        }
        Kit.put(x, "ab");
        x.book(2);
        Kit.due("the tape stays by a book(2)", 2, x.count(5));
        Kit.put(x, "cd");
        Kit.due("bytes come behind", 4, x.count(5));
    }

    /** "0 without one and ahead of any"; "the latest valley(), book() or sentence() (a book() of -1000 leaves it)". */
    private static void faultOfTheLatest() {
        HungerDays x = new HungerDays();
        Kit.due("ahead of any", 0, x.fault());
        Kit.valley(x, "span 0;");
        Kit.due("valley", 2, x.fault());
        x.book(-1);
        x.book(2);
        Kit.due("book(2) leaves it", 2, x.fault());
        Kit.put(x, "a");
        x.ate();
        Kit.due("ate() leaves it", 2, x.fault());
        Kit.book(x, "x ails;", 1);
        Kit.due("book", 3, x.fault());
        Kit.sentence(x, "x");
        Kit.due("sentence", 1, x.fault());
        Kit.sentence(x, "ill");
        Kit.due("a sentence without", 0, x.fault());
        Kit.sentence(x, Kit.repeat("not ", 9));
        Kit.due("sentence", 4, x.fault());
        x.book(0);
        Kit.due("a book without", 0, x.fault());
        Kit.book(x, "meet x;", 0);
        Kit.due("book", 3, x.fault());
        x.valley();
        Kit.due("a valley without", 0, x.fault());
        HungerDays y = Kit.of("person a 1 1 1;");
        Kit.due("a book that is wrong has no fault", 0, Kit.book(y, "a mends;", 0));
        Kit.due("fault", 0, y.fault());
    }

    /** Promise 6 in a VALLEY as full as may be. */
    private static void persons() {
        HungerDays x = Kit.of(FULL);
        int[][] want = {{199, 9, 0, 999, 0, 0, 9, 498}, {190, 9, 0, 999, 0, 9, 41, 496}, {0, 0, 0, 0, 0, 1, 37, 1},
            {19, 0, 0, 0, 0, 2, 5, 3}, {20, 1, 0, 0, 0, 3, 17, 250}, {39, 1, 0, 7, 0, 4, 63, 10}};
        for (int p = 0; p < 6; p++) {
            for (int what = 0; what < 8; what++) {
                Kit.due("person(" + p + ", " + what + ")", want[p][what], x.person(p, what));
            }
        }
        for (int i = 1; i <= 20; i++) {
            int p = i > 4 ? 0 : 1;
            Kit.due("eat " + i, 0, x.eat(p, (i - 1) / 5));
            Kit.due("portions that he ate", i > 4 ? i - 4 : i, x.person(p, 4));
        }
        Kit.due("hunger is 0 at least", 0, x.person(1, 0));
        Kit.due("hunger behind 16 portions", 109, x.person(0, 0));
    }

    /** "NoSuchElementException: no such ones": of PERSON or of what. */
    private static void noSuchPersons() {
        HungerDays x = Kit.of(FULL);
        for (int odd : ODD) {
            Kit.duePersonThrows(x, odd, 0);
            if (odd != 6) {
                Kit.duePersonThrows(x, 0, odd);
            }
        }
        Kit.duePersonThrows(x, 5, 8);
        Kit.duePersonThrows(x, 6, 8);
        HungerDays y = Kit.of("person a 1 1 1;");
        Kit.due("the one", 1, y.person(0, 0));
        Kit.duePersonThrows(y, 1, 0);
        Kit.duePersonThrows(new HungerDays(), 0, 0);
    }

    /** "NONE: no such ones": of FOOD or of what. */
    private static void foods() {
        HungerDays x = Kit.of(FULL);
        int[] fills = {60, 1, 2, 3};
        for (int f = 0; f < 4; f++) {
            Kit.due("fills", fills[f], x.food(f, 0));
            Kit.due("portions", 5, x.food(f, 1));
        }
        for (int odd : ODD) {
            Kit.due("food(" + odd + ", 0)", -1, x.food(odd, 0));
            Kit.due("food(0, " + odd + ")", -1, x.food(0, odd));
        }
        Kit.due("food(4, 1)", -1, x.food(4, 1));
        Kit.due("food(3, 2)", -1, x.food(3, 2));
        for (int i = 5; i > 0; i--) {
            Kit.due("portions", i, x.food(3, 1));
            x.eat(0, 3);
        }
        Kit.due("none left", 0, x.food(3, 1));
        Kit.due("no such of an empty valley", -1, new HungerDays().food(0, 0));
        Kit.valley(x, "food a 1 1;");
        Kit.due("no such of this valley", -1, x.food(1, 0));
    }

    /** "NONE, too: no such ones"; 'the HOUR in which it was held (NONE)'. */
    private static void meetings() {
        HungerDays x = Kit.of(FULL);
        int[] crowds = {63, 32, 44, 35, 48, 38};
        int[] dates = {3, 1, 2, 2, 1, 3};
        int[] why = {3, 0, 3, 3, 0, 3};
        for (int m = 0; m < 6; m++) {
            Kit.due("crowd of " + m, crowds[m], x.meeting(m, 0));
            Kit.due("not held", -1, x.meeting(m, 1));
            Kit.due("why not " + m, why[m], x.meeting(m, 2));
            Kit.due("unlike dates of " + m, dates[m], x.meeting(m, 3));
        }
        for (int odd : ODD) {
            Kit.due("meeting(" + odd + ", 0)", -1, x.meeting(odd, 0));
            Kit.due("meeting(0, " + odd + ")", -1, x.meeting(0, odd));
        }
        Kit.due("meeting(5, 4)", -1, x.meeting(5, 4));
        x.meet(1);
        Kit.due("held in hour 0", 0, x.meeting(1, 1));
        Kit.due("it was held", 1, x.meeting(1, 2));
        HungerDays y = Kit.of("span 1;person a 0 1 0;person b 0 2 0;person c 0 3 0;person d 0 4 0;person e 0 5 0;"
                + "person f 0 6 0;meeting m a b c d e f;");
        Kit.due("six unlike dates", 6, y.meeting(0, 3));
        Kit.goTo(y, 600);
        Kit.valley(y, "person a 0 1 0;meeting m a;");
        Kit.goTo(y, 600);
        Kit.due("held behind all hours", 0, y.meet(0));
        Kit.due("in hour 600", 600, y.meeting(0, 1));
        Kit.due("no such of an empty valley", -1, new HungerDays().meeting(0, 0));
    }

    /** Promise 9 in a VALLEY as full as may be: 'DUE now' by the DATE itself, one below it, of the ill, paid. */
    private static void debts() {
        HungerDays x = Kit.of(FULL);
        int[] who = {0, 1, 0, 1, 2, 5, 5, 4, 3, 5};
        int[] whom = {1, 0, 2, 2, 0, 0, 1, 5, 5, 4};
        int[] much = {250, 249, 248, 247, 1, 7, 1, 250, 3, 2};
        int[] date = {9, 9, 9, 9, 199, 1, 1, 1, 9, 0};
        int[] due = {1, 1, 1, 1, 0, 1, 1, 1, 0, 1};
        for (int d = 0; d < 10; d++) {
            Kit.due("who owes " + d, who[d], x.debt(d, 0));
            Kit.due("to whom " + d, whom[d], x.debt(d, 1));
            Kit.due("how much " + d, much[d], x.debt(d, 2));
            Kit.due("date of " + d, date[d], x.debt(d, 3));
            Kit.due("not paid " + d, -1, x.debt(d, 4));
            Kit.due("due now " + d, due[d], x.debt(d, 5));
        }
        x.ail(5);
        Kit.due("of the ill: not due", 0, x.debt(9, 5));
        x.mend(5);
        x.hours(1);
        int[] paid = {0, 0, 0, 0, -1, 0, -1, -1, -1, -1};
        for (int d = 0; d < 10; d++) {
            Kit.due("hour in which " + d + " was paid", paid[d], x.debt(d, 4));
            Kit.due("due behind an hour " + d, due[d] == 1 && paid[d] < 0 ? 1 : 0, x.debt(d, 5));
        }
        HungerDays y = Kit.of("person a 1 19 5;person b 0 0 0;debt a b 5 2;");
        Kit.due("one below the date", 0, y.debt(0, 5));
        y.hours(1);
        Kit.due("paid in the hour in which he came to it", 0, y.debt(0, 4));
        Kit.due("behind all hours it is the same", 0, y.debt(0, 5));
    }

    /** "NoSuchElementException: no such ones": of debt or of what. */
    private static void noSuchDebts() {
        HungerDays x = Kit.of(FULL);
        for (int odd : ODD) {
            if (odd != 6) {
                Kit.dueDebtThrows(x, odd, 0);
            }
            Kit.dueDebtThrows(x, 0, odd);
        }
        Kit.dueDebtThrows(x, 9, 6);
        HungerDays y = Kit.of("person a 1 1 1;person b 1 1 1;debt a b 1 1;");
        Kit.due("the one", 1, y.debt(0, 2));
        Kit.dueDebtThrows(y, 1, 0);
        Kit.dueDebtThrows(new HungerDays(), 0, 0);
    }

    /** Promise 10: all bits, 'NONE for another what'. */
    private static void now() {
        HungerDays x = Kit.of("person a 0 0 999;person b 0 0 999;person c 0 0 999;person d 0 0 999;person e 0 0 999;"
                + "person f 0 0 999;food g 1 5;food h 1 5;food i 1 5;food j 1 5;meeting k a;meeting l b;meeting m c;"
                + "meeting n d;meeting o e;meeting p f;debt a b 1 0;debt b c 1 0;debt c d 1 0;debt d e 1 0;debt e f 1 0;"
                + "debt f a 1 0;debt b a 1 0;debt c b 1 0;debt d c 1 0;debt e d 1 0;");
        Kit.due("all coin", 5994, x.now(5));
        Kit.due("all portions", 20, x.now(6));
        for (int i = 0; i < 6; i++) {
            Kit.due("meet", 0, x.meet(i));
            Kit.due("held", (2 << i) - 1, x.now(3));
        }
        x.hours(1);
        Kit.due("all are paid", 1023, x.now(4));
        Kit.due("all coin stays", 5994, x.now(5));
        Kit.due("no hour with one not paid", 0, x.now(7));
        for (int i = 5; i >= 0; i--) {
            Kit.due("ail", 0, x.ail(i));
            Kit.due("ill", 64 - (1 << i), x.now(2));
        }
        Kit.due("now(8)", -1, x.now(8));
        for (int odd : ODD) {
            if (odd != 6) {
                Kit.due("now(" + odd + ")", -1, x.now(odd));
            }
        }
        Kit.goTo(x, 600);
        Kit.due("hour 600", 600, x.now(0));
        Kit.due("no winter then", 0, x.now(1));
    }

    /** What a VALLEY of before had is of no matter. */
    private static void portionsAndCoinOfThisValleyAlone() {
        HungerDays x = Kit.of(FULL);
        Kit.valley(x, "person z 0 25 3;food y 2 1;meeting w z;");
        Kit.due("coin", 3, x.now(5));
        Kit.due("portions", 1, x.now(6));
        Kit.due("on(2)", 1, x.on(2));
        Kit.due("on(19)", 0, x.on(19));
        Kit.due("common", 2, x.common());
        Kit.due("meetings of z", 1, x.person(0, 6));
        Kit.due("owes", 0, x.person(0, 7));
        Kit.due("share", 9, x.share(9, 0));
        Kit.due("clash", 0, x.clash(-1));
        Kit.due("late(3)", -1, x.late(3));
        Kit.due("table(1)", 0, x.table(1));
        Kit.due("table(2)", -1, x.table(2));
        Kit.due("keeps(3)", 200, x.keeps(3));
        x.hours(5);
        Kit.due("nothing is due", 0, x.now(7));
        Kit.due("nothing is paid", 0, x.now(4));
        Kit.due("a sentence", 2, Kit.sentence(x, "not ill"));
        Kit.due("of one alone", 1, x.said(-1));
        x.valley();
        Kit.due("no coin", 0, x.now(5));
        Kit.due("no portions", 0, x.now(6));
        Kit.due("nobody", 0, x.on(0));
        Kit.due("no date", -1, x.common());
    }

    /** "HOURS in which some debt was DUE and not paid so far": an HOUR counts once. */
    private static void hoursWithDebtsNotPaid() {
        HungerDays x = Kit.of("person a 1 8 4;person b 0 99 0;debt a b 5 1;debt b a 5 9;");
        Kit.due("ahead of all", 0, x.now(7));
        x.hours(1);
        Kit.due("that of b", 1, x.now(7));
        x.hours(1);
        Kit.due("both count once", 2, x.now(7));
        x.ail(1);
        x.ail(0);
        x.hours(3);
        Kit.due("the ill have none that is due", 2, x.now(7));
        x.mend(0);
        x.hours(2);
        Kit.due("that of a", 4, x.now(7));
        HungerDays y = Kit.of("person a 0 10 5;person b 0 0 0;debt a b 5 1;");
        y.hours(60);
        Kit.due("paid at once: none", 0, y.now(7));
        HungerDays z = Kit.of("person a 0 10 4;person b 0 0 0;debt a b 5 1;");
        Kit.goTo(z, 600);
        Kit.due("all hours", 600, z.now(7));
        z.hours(1);
        Kit.due("no more hours", 600, z.now(7));
    }

    /** "PERSONS of a DATE (0 to 199), as bits; NONE: no such one". */
    private static void on() {
        HungerDays x = Kit.of("span 1;person a 0 199 0;person b 0 198 0;person c 0 0 0;person d 0 199 0;person e 0 1 0;"
                + "person f 0 199 0;");
        Kit.due("on(199)", 41, x.on(199));
        Kit.due("on(198)", 2, x.on(198));
        Kit.due("on(0)", 4, x.on(0));
        Kit.due("on(1)", 16, x.on(1));
        Kit.due("on(100)", 0, x.on(100));
        Kit.due("on(200)", -1, x.on(200));
        Kit.due("on(-1)", -1, x.on(-1));
        Kit.due("on of the greatest", -1, x.on(Integer.MAX_VALUE));
        Kit.due("on of the least", -1, x.on(Integer.MIN_VALUE));
        HungerDays y = Kit.of("span 20;person a 0 199 0;person b 0 19 0;person c 0 20 0;");
        Kit.due("hunger by span, cut", 1, y.on(9));
        Kit.due("one below the second date", 2, y.on(0));
        Kit.due("just the second date", 4, y.on(1));
        Kit.due("no later one", 0, y.on(10));
    }

    /** "(of like ones the least); NONE: there are no PERSONS". */
    private static void common() {
        String[] texts = {"5 5 4", "4 5 5", "5 4 5 4", "4 5 5 4", "9 8 7", "7 8 9", "8 9 9 8 7", "1 0", "0 1",
            "3 3 3 2 2 2", "2 3 3 3 2 2", "9 9 1 1 1 9", "0", "199", "3 1 1 3 3 1", "6 5 5 4 4 4"};
        int[] want = {5, 5, 4, 4, 7, 7, 8, 0, 0, 2, 2, 1, 0, 199, 1, 4};
        for (int i = 0; i < texts.length; i++) {
            StringBuilder valley = new StringBuilder("span 1;");
            char name = 'a';
            for (String hunger : texts[i].split(" ")) {
                valley.append("person ").append(name).append(" 0 ").append(hunger).append(" 0;");
                name++;
            }
            Kit.due("common of " + texts[i], want[i], Kit.of(valley.toString()).common());
        }
        Kit.due("no persons", -1, new HungerDays().common());
        Kit.due("foods are no persons", -1, Kit.of("food a 1 1;").common());
    }

    /** "NONE for another what". */
    private static void counts() {
        HungerDays x = Kit.of(FULL);
        int[] want = {6, 4, 6, 10, 20, 0};
        for (int what = 0; what < 6; what++) {
            Kit.due("count(" + what + ")", want[what], x.count(what));
        }
        for (int odd : ODD) {
            Kit.due("count(" + odd + ")", -1, x.count(odd));
        }
        Kit.due("count(7)", -1, x.count(7));
        Kit.put(x, Kit.repeat("x", 939));
        Kit.due("bytes", 939, x.count(5));
    }

    /** "A new VALLEY: HOUR 0, nobody is ill, nothing held or paid, no SENTENCE": alike one of a new object. */
    private static void newValley() {
        HungerDays x = Kit.of(FULL);
        Kit.sentence(x, "ill");
        x.eat(0, 0);
        x.meet(1);
        x.meet(4);
        x.ail(0);
        x.ail(5);
        x.hours(60);
        Kit.due("something is paid", true, x.now(4) != 0);
        Kit.due("some hours were with debts", true, x.now(7) != 0);
        Kit.valley(x, FULL);
        Kit.due("as new", true, Kit.seen(x).equals(Kit.seen(Kit.of(FULL))));
        Kit.due("no sentence", -1, x.said(-1));
        Kit.due("nothing can be undone", -1, x.undo());
    }
}
