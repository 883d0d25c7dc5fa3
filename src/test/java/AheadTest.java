/** Promises 25 to 31: twins, late, share, clash, keeps, later, paid. */
final class AheadTest {
    public static void main(String[] args) {
        twins();
        late();
        share();
        clash();
        keeps();
        later();
        paid();
        stays();
        Kit.end();
    }

    private static void twins() {
        HungerDays x = Kit.of(Kit.VALLEY);
        Kit.due("twins(0, 1)", 81, x.twins(0, 1));
        Kit.due("twins(1, 0)", 81, x.twins(1, 0));
        Kit.due("alike", -1, x.twins(1, 1));
        Kit.due("no such one", -1, x.twins(0, 3));
        Kit.due("no such one", -1, x.twins(-1, 0));
        x.ail(0);
        Kit.due("the ill are overtaken by cid", 9, x.twins(0, 2));
        HungerDays y = Kit.of("span 1;person a 1 0 0;person b 0 199 0;person c 0 0 0;");
        Kit.due("behind 199 hours", 199, y.twins(0, 1));
        Kit.due("now", 0, y.twins(0, 2));
        Kit.due("never", -1, y.twins(1, 2));
        HungerDays z = Kit.of("span 1;person a 1 0 0;person b 0 199 0;");
        z.ail(0);
        Kit.goTo(z, 399);
        z.mend(0);
        z.hours(2);
        z.undo();
        Kit.due("in hour 598", 598, z.twins(0, 1));
        HungerDays w = Kit.of("span 1;person a 1 0 0;person b 0 199 0;");
        w.ail(0);
        Kit.goTo(w, 401);
        w.mend(0);
        Kit.due("hour 600, too", 600, w.twins(0, 1));
        HungerDays v = Kit.of("span 1;person a 1 0 0;person b 0 199 0;");
        v.ail(0);
        Kit.goTo(v, 402);
        v.mend(0);
        Kit.due("not beyond hour 600", -1, v.twins(0, 1));
    }

    private static void late() {
        HungerDays x = Kit.of(Kit.VALLEY);
        Kit.due("late(0)", 0, x.late(0));
        Kit.due("late(3)", 19, x.late(3));
        Kit.due("late(199)", -1, x.late(199));
        Kit.due("late(200)", -1, x.late(200));
        Kit.due("late(-1)", -1, x.late(-1));
        Kit.due("no persons", -1, new HungerDays().late(0));
        x.ail(2);
        Kit.due("the ill are of all", -1, x.late(3));
        Kit.due("with him now", 0, x.late(0));
        HungerDays y = Kit.of("span 1;person a 1 0 0;");
        Kit.due("199", 199, y.late(199));
        Kit.goTo(y, 100);
        Kit.due("hours are told from hour 0", 150, y.late(150));
    }

    private static void share() {
        HungerDays x = Kit.of("person a 0 10 0;person b 0 10 0;person c 0 10 0;person d 0 0 0;");
        int[] want = {4, 3, 3, 0};
        for (int p = 0; p < 4; p++) {
            Kit.due("share(10, " + p + ")", want[p], x.share(10, p));
        }
        Kit.due("two are left", 4, x.share(11, 1));
        Kit.due("two are left", 3, x.share(11, 2));
        Kit.due("share(0, 0)", 0, x.share(0, 0));
        Kit.due("share(999, 0)", 333, x.share(999, 0));
        Kit.due("share(1000, 0)", -1, x.share(1000, 0));
        Kit.due("share(-1, 0)", -1, x.share(-1, 0));
        Kit.due("share(1, 4)", -1, x.share(1, 4));
        Kit.due("share(1, -1)", -1, x.share(1, -1));
        x.ail(0);
        Kit.due("the ill have nothing", -1, x.share(10, 0));
        Kit.due("the others have more", 5, x.share(10, 1));
        HungerDays y = Kit.of("person a 0 0 0;person b 0 9 0;");
        y.ail(1);
        Kit.due("nobody has hunger", 0, y.share(500, 0));
        HungerDays z = Kit.of("person a 0 1 0;person b 0 3 0;person c 0 3 0;");
        Kit.due("the greatest rest", 1, z.share(5, 0));
        Kit.due("all of it", 5, z.share(5, 0) + z.share(5, 1) + z.share(5, 2));
    }

    private static void clash() {
        HungerDays x = Kit.of("person a 0 30 0;person b 0 29 0;person c 0 30 0;"
                + "debt a b 1 3;debt b a 1 3;debt b c 1 3;debt c b 1 4;");
        Kit.due("how many", 2, x.clash(-1));
        Kit.due("the first", 1, x.clash(0));
        Kit.due("the second", 2, x.clash(1));
        Kit.due("none such", -1, x.clash(2));
        Kit.due("none such", -1, x.clash(-2));
        Kit.due("none such", -1, x.clash(Integer.MAX_VALUE));
        x.ail(0);
        x.ail(1);
        Kit.due("the ill clash, too", 2, x.clash(-1));
        HungerDays y = Kit.of("person a 0 30 5;person b 0 30 0;food f 9 5;debt a b 5 3;");
        y.hours(1);
        y.eat(0, 0);
        Kit.due("paid", 0, y.clash(-1));
        y.undo();
        y.undo();
        y.eat(0, 0);
        Kit.due("not paid", 1, y.clash(-1));
    }

    private static void keeps() {
        HungerDays x = Kit.of(Kit.VALLEY);
        Kit.due("keeps(5)", 11, x.keeps(5));
        Kit.due("keeps(1)", 0, x.keeps(1));
        Kit.due("keeps(0)", -1, x.keeps(0));
        Kit.due("keeps(200)", -1, x.keeps(200));
        Kit.due("keeps(199)", 200, x.keeps(199));
        Kit.goTo(x, 450);
        Kit.due("till hour 600", 150, x.keeps(199));
        Kit.goTo(x, 600);
        Kit.due("hour 600", 0, x.keeps(199));
        HungerDays y = Kit.of("person a 0 15 0;person b 1 0 0;food f 1 3;food g 6 1;");
        y.ail(0);
        Kit.due("the ill do not eat, nor count", 19, y.keeps(1));
        HungerDays z = Kit.of("span 1;person a 1 0 0;food f 1 2;food g 3 2;");
        Kit.due("most left first, the first of like ones", 8, z.keeps(2));
    }

    private static void later() {
        HungerDays x = Kit.of("winter 2 3;span 4;person a 2 0 0;person b 9 0 0;");
        int[] want = {0, 0, 1, 2, 3, 4, 4, 5};
        for (int h = 0; h < want.length; h++) {
            Kit.due("later(0, " + h + ")", want[h], x.later(0, h));
        }
        Kit.due("later(1, 600)", 49, x.later(1, 600));
        Kit.due("later(0, 601)", -1, x.later(0, 601));
        Kit.due("later(2, 0)", -1, x.later(2, 0));
        Kit.due("later(-1, 0)", -1, x.later(-1, 0));
        Kit.due("later(0, -1)", -1, x.later(0, -1));
        x.hours(5);
        Kit.due("it is past", -1, x.later(0, 4));
        Kit.due("now", 4, x.later(0, 5));
        x.ail(0);
        Kit.due("the ill stay", 4, x.later(0, 600));
    }

    private static void paid() {
        HungerDays x = Kit.of(Kit.VALLEY + "debt cid ann 250 0;");
        Kit.due("paid(0)", 2, x.paid(0));
        Kit.due("paid(1)", 2, x.paid(1));
        Kit.due("never", -1, x.paid(2));
        Kit.due("paid(3)", -1, x.paid(3));
        Kit.due("paid(-1)", -1, x.paid(-1));
        x.hours(3);
        Kit.due("paid already", -1, x.paid(0));
        HungerDays y = Kit.of("span 1;person a 1 0 9;person b 0 0 0;debt a b 9 199;");
        y.ail(0);
        Kit.goTo(y, 401);
        y.mend(0);
        Kit.due("in the last hour", 599, y.paid(0));
        HungerDays z = Kit.of("span 1;person a 1 0 9;person b 0 0 0;debt a b 9 199;");
        z.ail(0);
        Kit.goTo(z, 402);
        z.mend(0);
        Kit.due("too late", -1, z.paid(0));
        HungerDays w = Kit.of("span 1;person a 0 0 9;person b 0 0 0;debt a b 9 0;");
        Kit.due("in hour 0", 0, w.paid(0));
        w.ail(0);
        Kit.due("the ill do not pay", -1, w.paid(0));
    }

    private static void stays() {
        HungerDays x = Kit.of(Kit.VALLEY);
        x.twins(0, 1);
        x.late(3);
        x.keeps(5);
        x.later(0, 600);
        x.paid(0);
        x.odds(0, 5, 5);
        Kit.due("hour stays", 0, x.now(0));
        Kit.due("portions stay", 3, x.now(6));
        Kit.due("hunger stays", 25, x.person(0, 0));
        Kit.due("debts stay", 0, x.now(4));
        Kit.due("nothing to undo", -1, x.undo());
    }
}
