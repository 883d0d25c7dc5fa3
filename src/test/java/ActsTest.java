/** Promises 11 to 16: acts, hours, undoing. */
final class ActsTest {
    public static void main(String[] args) {
        eating();
        health();
        meeting();
        hours();
        undoing();
        undoingMany();
        Kit.end();
    }

    private static void eating() {
        HungerDays x = Kit.of("person a 1 5 0;person b 1 100 0;food f 60 3;food g 7 0;");
        Kit.due("no portion", 2, x.eat(0, 1));
        Kit.due("eat", 0, x.eat(1, 0));
        Kit.due("hunger", 40, x.person(1, 0));
        Kit.due("eat more than hunger", 0, x.eat(0, 0));
        Kit.due("hunger is 0 at least", 0, x.person(0, 0));
        Kit.due("without hunger", 3, x.eat(0, 0));
        Kit.due("no portion is the lesser reason", 2, x.eat(0, 1));
        x.ail(0);
        Kit.due("ill is the least reason", 1, x.eat(0, 1));
        Kit.due("portions", 1, x.food(0, 1));
        Kit.due("portions eaten", 1, x.person(1, 4));
        Kit.due("eat(2, 0)", -1, x.eat(2, 0));
        Kit.due("eat(-1, 0)", -1, x.eat(-1, 0));
        Kit.due("eat(0, 2)", -1, x.eat(0, 2));
        Kit.due("eat(0, -1)", -1, x.eat(0, -1));
    }

    private static void health() {
        HungerDays x = Kit.of("person a 1 5 0;person b 1 5 0;");
        Kit.due("not ill", 1, x.mend(1));
        Kit.due("ails", 0, x.ail(1));
        Kit.due("ill already", 1, x.ail(1));
        x.hours(2);
        Kit.due("hunger of the ill stays", 5, x.person(1, 0));
        Kit.due("hunger of the others grows", 7, x.person(0, 0));
        Kit.due("mends", 0, x.mend(1));
        x.hours(1);
        Kit.due("hunger grows again", 6, x.person(1, 0));
        Kit.due("ail(2)", -1, x.ail(2));
        Kit.due("ail(-1)", -1, x.ail(-1));
        Kit.due("mend(2)", -1, x.mend(2));
        Kit.due("mend(-1)", -1, x.mend(-1));
    }

    private static void meeting() {
        HungerDays x = Kit.of("person a 0 19 0;person b 0 10 0;person c 1 9 0;meeting m a b;meeting n a c;");
        Kit.due("not of one date", 3, x.meet(1));
        Kit.due("of one date", 0, x.meet(0));
        Kit.due("held already", 1, x.meet(0));
        x.ail(2);
        Kit.due("one is ill", 2, x.meet(1));
        x.ail(1);
        Kit.due("held is the least", 1, x.meet(0));
        x.mend(2);
        x.hours(1);
        Kit.due("of one date now", 0, x.meet(1));
        Kit.due("held in hour", 1, x.meeting(1, 1));
        Kit.due("meet(2)", -1, x.meet(2));
        Kit.due("meet(-1)", -1, x.meet(-1));
    }

    private static void hours() {
        HungerDays x = Kit.of("winter 1 2;person a 3 0 0;person b 9 190 0;");
        Kit.due("hours(0)", -1, x.hours(0));
        Kit.due("hours(61)", -1, x.hours(61));
        Kit.due("hours(-5)", -1, x.hours(-5));
        int[] hunger = {3, 9, 15, 18};
        for (int want : hunger) {
            Kit.due("hours(1)", 1, x.hours(1));
            Kit.due("hunger", want, x.person(0, 0));
        }
        Kit.due("hunger is 199 at most", 199, x.person(1, 0));
        for (int i = 0; i < 9; i++) {
            Kit.due("hours(60)", 60, x.hours(60));
        }
        Kit.due("the last hours", 56, x.hours(60));
        Kit.due("hour", 600, x.now(0));
        Kit.due("no more", 0, x.hours(1));
        x.undo();
        Kit.due("no hours are no act", 544, x.now(0));
    }

    private static void undoing() {
        HungerDays x = Kit.of("person a 1 50 9;person b 1 0 0;food f 60 3;meeting m a;debt a b 3 5;");
        Kit.due("nothing to undo", -1, x.undo());
        x.eat(0, 0);
        x.ail(0);
        x.mend(0);
        x.meet(0);
        x.eat(0, 0);
        x.mend(0);
        x.meet(0);
        x.hours(0);
        x.drawn(0, 1);
        Kit.due("acts that were not done are none: meet is undone", 3, x.undo());
        Kit.due("not held", -1, x.meeting(0, 1));
        Kit.due("mend is undone", 2, x.undo());
        Kit.due("ill", 1, x.person(0, 2));
        Kit.due("ail is undone", 1, x.undo());
        Kit.due("not ill", 0, x.person(0, 2));
        Kit.due("eat is undone", 0, x.undo());
        Kit.due("hunger", 50, x.person(0, 0));
        Kit.due("portions", 3, x.food(0, 1));
        Kit.due("eaten", 0, x.person(0, 4));
        Kit.due("nothing more", -1, x.undo());
        x.hours(2);
        Kit.due("paid", 0, x.debt(0, 4));
        Kit.due("hours are undone", 0, x.undo());
        Kit.due("not paid", -1, x.debt(0, 4));
        Kit.due("coin", 9, x.person(0, 3));
        x.drawn(5, 7);
        Kit.due("drawn", 5, x.now(0));
        Kit.due("drawn hours are undone", 0, x.undo());
        Kit.due("hour", 0, x.now(0));
        Kit.book(x, "a ails;hour 3;a ails;", 1);
        Kit.due("lived", 3, x.now(0));
        Kit.due("a book is undone", 0, x.undo());
        Kit.due("hour", 0, x.now(0));
        Kit.book(x, "a ails;hour 3;", 0);
        Kit.due("a book that is judged is no act", -1, x.undo());
        Kit.book(x, "a ails;?", 1);
        Kit.due("a book with a fault is no act", -1, x.undo());
        Kit.book(x, "", 1);
        Kit.due("a book without lines was lived", 0, x.undo());
    }

    private static void undoingMany() {
        HungerDays x = Kit.of("person a 1 0 0;");
        for (int i = 0; i < 11; i++) {
            x.hours(1);
        }
        for (int i = 7; i >= 0; i--) {
            Kit.due("undo", i, x.undo());
            Kit.due("hour", 3 + i, x.now(0));
        }
        Kit.due("eight are kept", -1, x.undo());
        Kit.due("hour", 3, x.now(0));
        x.hours(2);
        Kit.due("undo", 0, x.undo());
        Kit.due("hour", 3, x.now(0));
        x.hours(1);
        Kit.sentence(x, "ill");
        x.undo();
        Kit.due("undoing leaves the sentence", 0, x.said(-1));
    }
}
