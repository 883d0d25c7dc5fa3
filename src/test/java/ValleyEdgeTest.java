import java.util.function.ToIntFunction;

/** Edges of the term 'A VALLEY is a text': how small, large, many each thing may be; how often it may be told. */
final class ValleyEdgeTest {
    private static final String SIX = "person a 0 0 0;person b 0 0 0;person c 0 0 0;"
            + "person d 0 0 0;person e 0 0 0;person f 0 0 0;";
    private static final String FOUR = "food g 1 1;food h 1 1;food i 1 1;food j 1 1;";
    private static final String WORDS = "span winter person food meeting debt eats ails mends meet hour "
            + "or and not ill owes like in date hunger coin number";

    public static void main(String[] args) {
        numbers();
        winters();
        empty();
        spanOnce();
        winterOnce();
        meetingOfOneToSix();
        debtsOfTwo();
        namesAreNoWords();
        namesAreToldOnce();
        namesOfAnotherSort();
        namesAreToldAhead();
        sixPersons();
        fourFoods();
        sixMeetings();
        tenDebts();
        linesOfAllSorts();
        Kit.end();
    }

    /** All from the least to the greatest are taken; one below, one above is a FAULT of kind 2 at the NUMBER. */
    private static void dueRange(String ahead, String behind, int least, int greatest, ToIntFunction<HungerDays> read) {
        for (int n = least; n <= greatest; n++) {
            Kit.due(ahead + n + behind, n, read.applyAsInt(Kit.of(ahead + n + behind)));
        }
        if (least > 0) {
            Kit.dueValleyFault(ahead + (least - 1) + behind, ahead.length(), 2);
        }
        Kit.dueValleyFault(ahead + (greatest + 1) + behind, ahead.length(), greatest == 999 ? 1 : 2);
        if (greatest < 999) {
            Kit.dueValleyFault(ahead + 999 + behind, ahead.length(), 2);
        }
    }

    /** "1 to 20", "0 to 9; 0 to 199; 0 to 999", "1 to 60; 0 to 5", "1 to 250; 0 to 199". */
    private static void numbers() {
        dueRange("span ", ";", 1, 20, x -> x.count(4));
        dueRange("person a ", " 0 0;", 0, 9, x -> x.person(0, 5));
        dueRange("person a 0 ", " 0;", 0, 199, x -> x.person(0, 0));
        dueRange("person a 0 0 ", ";", 0, 999, x -> x.person(0, 3));
        dueRange("food a ", " 0;", 1, 60, x -> x.food(0, 0));
        dueRange("food a 1 ", ";", 0, 5, x -> x.food(0, 1));
        dueRange(SIX + "debt a b ", " 0;", 1, 250, x -> x.debt(0, 2));
        dueRange(SIX + "debt a b 1 ", ";", 0, 199, x -> x.debt(0, 3));
    }

    /** "'winter' FROM LONG (0 to 399; 1 to 200 HOURS ..)": the first HOUR, the last one, and those about them. */
    private static void winters() {
        for (int from = 0; from < 400; from++) {
            dueWinter(from, 1);
        }
        for (int hours = 1; hours <= 200; hours++) {
            dueWinter(0, hours);
            dueWinter(399, hours);
        }
        Kit.dueValleyFault("winter 400 1;", 7, 2);
        Kit.dueValleyFault("winter 999 1;", 7, 2);
        Kit.dueValleyFault("winter 0 0;", 9, 2);
        Kit.dueValleyFault("winter 0 201;", 9, 2);
        Kit.dueValleyFault("winter 399 201;", 11, 2);
    }

    private static void dueWinter(int from, int hours) {
        HungerDays x = Kit.of("winter " + from + " " + hours + ";");
        if (from > 0) {
            Kit.goTo(x, from - 1);
            Kit.due("ahead of winter " + from, 0, x.now(1));
        }
        Kit.goTo(x, from);
        Kit.due("the first hour of winter " + from, 1, x.now(1));
        Kit.goTo(x, from + hours - 1);
        Kit.due("the last hour of winter " + from + " " + hours, 1, x.now(1));
        Kit.goTo(x, from + hours);
        Kit.due("behind winter " + from + " " + hours, 0, x.now(1));
    }

    /** "{ LINE ; }": none at all, too. */
    private static void empty() {
        HungerDays x = Kit.of(Kit.VALLEY);
        Kit.due("valley of no bytes", 0, x.valley());
        Kit.due("no fault", 0, x.fault());
        for (int what = 0; what < 4; what++) {
            Kit.due("count(" + what + ")", 0, x.count(what));
        }
        for (int what = 0; what < 8; what++) {
            Kit.due("now(" + what + ")", 0, x.now(what));
        }
        Kit.dueValleyFault(";", 0, 1);
        Kit.dueValleyFault("span 5;;", 7, 1);
        Kit.dueValleyFault("span 5", 6, 1);
    }

    /** "'span' N (..; once; 10 without)". */
    private static void spanOnce() {
        HungerDays x = Kit.of("span 3;");
        Kit.due("told", 3, x.count(4));
        Kit.due("a valley without it", 1, Kit.valley(x, "winter 0 1;"));
        Kit.due("10 without", 10, x.count(4));
        Kit.dueValleyFault("span 3;span 3;", 7, 3);
        Kit.dueValleyFault("span 10;winter 0 1;span 10;", 19, 3);
        Kit.dueValleyFault("span 3;span", 7, 3);
        Kit.due("a fault leaves the span", -6, Kit.valley(x, "span 0;"));
        Kit.due("10", 10, x.count(4));
    }

    /** "'winter' FROM LONG (..; once; none without)". */
    private static void winterOnce() {
        HungerDays x = Kit.of("winter 0 200;");
        Kit.due("winter", 1, x.now(1));
        Kit.due("a valley without it", 1, Kit.valley(x, "person a 1 0 0;"));
        Kit.due("none without", 0, x.now(1));
        x.hours(1);
        Kit.due("hunger grows once", 1, x.person(0, 0));
        Kit.dueValleyFault("winter 0 1;winter 5 1;", 11, 3);
        Kit.dueValleyFault("winter 0 1;winter", 11, 3);
        Kit.dueValleyFault("winter 0 1;span 1;\nwinter 400 1;", 19, 3);
    }

    /** "'meeting' NAME { PERSON } (each once; 1 at least)". */
    private static void meetingOfOneToSix() {
        Kit.due("one", 1, Kit.of(SIX + "meeting m a;").meeting(0, 0));
        Kit.due("the last", 32, Kit.of(SIX + "meeting m f;").meeting(0, 0));
        Kit.due("six", 63, Kit.of(SIX + "meeting m f e d c b a;").meeting(0, 0));
        Kit.dueValleyFault(SIX + "meeting m;", 99, 1);
        Kit.dueValleyFault("meeting m ;", 10, 1);
        Kit.dueValleyFault(SIX + "meeting m a a;", 102, 3);
        Kit.dueValleyFault(SIX + "meeting m a b c d e f a;", 112, 3);
        Kit.dueValleyFault(SIX + "meeting m a b c d e f g;", 112, 3);
        Kit.dueValleyFault(SIX + "meeting m a b c d e f 6;", 112, 1);
        Kit.dueValleyFault(SIX + "meeting m a b c d e f", 111, 1);
    }

    /** "(the first owes the second; unlike; ..; each two once in this order)". */
    private static void debtsOfTwo() {
        HungerDays x = Kit.of(SIX + "debt a f 1 0;debt f a 2 0;");
        Kit.due("who owes", 0, x.debt(0, 0));
        Kit.due("to whom", 5, x.debt(0, 1));
        Kit.due("the other order: who owes", 5, x.debt(1, 0));
        Kit.due("the other order: to whom", 0, x.debt(1, 1));
        Kit.dueValleyFault(SIX + "debt f f 1 0;", 97, 3);
        Kit.dueValleyFault(SIX + "debt a b 1 0;debt b a 1 0;debt a b 2 1;", 123, 3);
        Kit.dueValleyFault(SIX + "debt a b 1 0;debt b a 1 0;debt b a 2 1;", 123, 3);
        Kit.dueValleyFault(SIX + "debt a;", 96, 1);
        Kit.dueValleyFault(SIX + "debt a 1 0;", 97, 1);
        Kit.dueValleyFault(SIX + "debt a b c 1;", 99, 1);
        Kit.dueValleyFault(SIX + "debt a b 1;", 100, 1);
    }

    /** "NAME: a WORD, none of those told here, in a BOOK or a SENTENCE". */
    private static void namesAreNoWords() {
        for (String word : WORDS.split(" ")) {
            Kit.dueValleyFault("person " + word + " 1 1 1;", 7, 1);
            Kit.dueValleyFault("food " + word + " 1 1;", 5, 1);
            Kit.dueValleyFault("person a 1 1 1;meeting " + word + " a;", 23, 1);
            String longer = word.length() < 7 ? word + "z" : word.substring(0, 6);
            Kit.due(longer + " is a name", 1, Kit.of("food " + longer + " 1 1;").count(1));
            String shorter = word.substring(1);
            Kit.due(shorter + " is a name", 1, Kit.of("food " + shorter + "q 1 1;").count(1));
        }
    }

    /** "told once": by what sorts ever. */
    private static void namesAreToldOnce() {
        String[] first = {"person x 1 1 1;", "food x 1 1;", "person p 1 1 1;meeting x p;"};
        String[] second = {"person x", "food x", "meeting x"};
        for (String told : first) {
            for (String again : second) {
                Kit.dueValleyFault(told + again, told.length() + again.length() - 1, 3);
            }
        }
    }

    /** "3 a NAME .. not told, or of another sort". */
    private static void namesOfAnotherSort() {
        String all = "person p 1 1 1;food f 1 1;meeting m p;";
        for (String name : new String[] {"f", "m", "x"}) {
            Kit.dueValleyFault(all + "meeting n " + name + ";", 48, 3);
            Kit.dueValleyFault(all + "meeting n p " + name + ";", 50, 3);
            Kit.dueValleyFault(all + "debt " + name + " p 1 1;", 43, 3);
            Kit.dueValleyFault(all + "debt p " + name + " 1 1;", 45, 3);
        }
        Kit.dueValleyFault(all + "meeting n n;", 48, 3);
    }

    /** A NAME is told when its LINE comes: ahead of that, and in a VALLEY of before, it is not. */
    private static void namesAreToldAhead() {
        Kit.dueValleyFault("meeting m a;person a 1 1 1;", 10, 3);
        HungerDays x = Kit.of(SIX);
        Kit.due("names of a valley before", -11, Kit.valley(x, "meeting m a;"));
        Kit.due("fault", 3, x.fault());
        Kit.due("a name may be told again in a new valley", 1, Kit.valley(x, "food a 1 1;"));
        Kit.due("its sort is the new one", -2, Kit.book(x, "a ails;", 0));
        Kit.due("fault", 3, x.fault());
    }

    /** "6 PERSONS .. at most, numbered from 0". */
    private static void sixPersons() {
        HungerDays x = Kit.of("person a 0 0 10;person b 0 0 11;person c 0 0 12;person d 0 0 13;person e 0 0 14;person f 0 0 15;");
        for (int p = 0; p < 6; p++) {
            Kit.due("coin of " + p, 10 + p, x.person(p, 3));
        }
        Kit.duePersonThrows(x, 6, 3);
        Kit.dueValleyFault(SIX + "person g 0 0 0;", 90, 4);
        Kit.dueValleyFault(SIX + "\nperson", 91, 4);
    }

    /** "4 FOODS .. at most, numbered from 0". */
    private static void fourFoods() {
        HungerDays x = Kit.of("food a 10 0;food b 11 1;food c 12 2;food d 13 3;");
        for (int f = 0; f < 4; f++) {
            Kit.due("fills " + f, 10 + f, x.food(f, 0));
            Kit.due("portions of " + f, f, x.food(f, 1));
        }
        Kit.due("food(4, 0)", -1, x.food(4, 0));
        Kit.dueValleyFault(FOUR + "food k 1 1;", 44, 4);
        Kit.dueValleyFault(FOUR + "span 5;food", 51, 4);
    }

    /** "6 MEETINGS .. at most, numbered from 0". */
    private static void sixMeetings() {
        String six = "meeting k a;meeting l b;meeting m c;meeting n d;meeting o e;meeting p f;";
        HungerDays x = Kit.of(SIX + six);
        for (int m = 0; m < 6; m++) {
            Kit.due("crowd of " + m, 1 << m, x.meeting(m, 0));
        }
        Kit.due("meeting(6, 0)", -1, x.meeting(6, 0));
        Kit.dueValleyFault(SIX + six + "meeting q a;", 162, 4);
        Kit.dueValleyFault(SIX + six + "meeting", 162, 4);
    }

    /** "10 debts at most, numbered from 0 (debts as they come)". */
    private static void tenDebts() {
        String ten = SIX + "debt a b 1 0;debt a c 2 1;debt a d 3 2;debt a e 4 3;debt a f 5 4;"
                + "debt b a 6 5;debt b c 7 6;debt b d 8 7;debt b e 9 8;debt b f 10 9;";
        HungerDays x = Kit.of(ten);
        Kit.due("debts", 10, x.count(3));
        for (int d = 0; d < 10; d++) {
            Kit.due("how much of " + d, 1 + d, x.debt(d, 2));
            Kit.due("date of " + d, d, x.debt(d, 3));
        }
        Kit.dueDebtThrows(x, 10, 0);
        Kit.dueValleyFault(ten + "debt e f 1 1;", ten.length(), 4);
        Kit.dueValleyFault(ten + "debt ?", ten.length(), 4);
    }

    /** LINES come in any order, as many as may be of each sort: 28 in all. */
    private static void linesOfAllSorts() {
        HungerDays x = new HungerDays();
        String all = FOUR + SIX + "meeting k a;meeting l b;meeting m c;meeting n d;meeting o e;meeting p f;"
                + "debt a b 1 0;debt a c 1 0;debt a d 1 0;debt a e 1 0;debt a f 1 0;"
                + "debt f b 1 0;debt f c 1 0;debt f d 1 0;debt f e 1 0;debt f a 1 0;winter 399 200;span 20;";
        Kit.due("28 lines", 28, Kit.valley(x, all));
        Kit.due("and again", 28, Kit.valley(x, all));
        int[] counts = {6, 4, 6, 10, 20, 0};
        for (int what = 0; what < 6; what++) {
            Kit.due("count(" + what + ")", counts[what], x.count(what));
        }
    }
}
