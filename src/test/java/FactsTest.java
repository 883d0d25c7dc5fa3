/** Promises 6 to 10, 17 and 18: what is so of persons, foods, meetings, debts, now; dates. */
final class FactsTest {
    public static void main(String[] args) {
        persons();
        foods();
        meetings();
        debts();
        now();
        unpaidHours();
        dates();
        Kit.end();
    }

    private static void persons() {
        HungerDays x = Kit.of(Kit.VALLEY);
        int[][] want = {{25, 2, 0, 30, 0, 2, 3, 12}, {47, 4, 0, 10, 0, 3, 3, 15}, {9, 0, 0, 0, 0, 1, 2, 0}};
        for (int p = 0; p < 3; p++) {
            for (int what = 0; what < 8; what++) {
                Kit.due("person(" + p + ", " + what + ")", want[p][what], x.person(p, what));
            }
        }
        x.ail(1);
        Kit.due("ill", 1, x.person(1, 2));
        x.eat(0, 0);
        Kit.due("ate", 1, x.person(0, 4));
        Kit.duePersonThrows(x, -1, 0);
        Kit.duePersonThrows(x, 3, 0);
        Kit.duePersonThrows(x, 0, -1);
        Kit.duePersonThrows(x, 0, 8);
        Kit.duePersonThrows(x, Integer.MAX_VALUE, 0);
        x.hours(60);
        Kit.due("owes nothing when it is paid", 0, x.person(0, 7));
    }

    private static void foods() {
        HungerDays x = Kit.of(Kit.VALLEY);
        Kit.due("fills", 8, x.food(0, 0));
        Kit.due("left", 2, x.food(0, 1));
        Kit.due("fills", 20, x.food(1, 0));
        Kit.due("left", 1, x.food(1, 1));
        x.eat(0, 0);
        Kit.due("left behind a meal", 1, x.food(0, 1));
        Kit.due("food(2, 0)", -1, x.food(2, 0));
        Kit.due("food(-1, 0)", -1, x.food(-1, 0));
        Kit.due("food(0, 2)", -1, x.food(0, 2));
        Kit.due("food(0, -1)", -1, x.food(0, -1));
    }

    private static void meetings() {
        HungerDays x = Kit.of(Kit.VALLEY + "meeting club cid;");
        Kit.due("crowd", 7, x.meeting(1, 0));
        Kit.due("not held", -1, x.meeting(1, 1));
        Kit.due("not of one date", 3, x.meeting(1, 2));
        Kit.due("unlike dates", 3, x.meeting(1, 3));
        Kit.due("can be held", 0, x.meeting(2, 2));
        Kit.due("one date", 1, x.meeting(2, 3));
        x.ail(2);
        Kit.due("one is ill", 2, x.meeting(2, 2));
        Kit.due("one is ill and they are unlike", 2, x.meeting(1, 2));
        Kit.due("the ill have dates", 3, x.meeting(1, 3));
        x.mend(2);
        x.hours(4);
        x.meet(2);
        x.ail(2);
        Kit.due("held", 4, x.meeting(2, 1));
        Kit.due("held is the least reason", 1, x.meeting(2, 2));
        Kit.due("meeting(3, 0)", -1, x.meeting(3, 0));
        Kit.due("meeting(-1, 0)", -1, x.meeting(-1, 0));
        Kit.due("meeting(0, 4)", -1, x.meeting(0, 4));
        Kit.due("meeting(0, -1)", -1, x.meeting(0, -1));
    }

    private static void debts() {
        HungerDays x = Kit.of(Kit.VALLEY);
        int[][] want = {{0, 1, 12, 3, -1, 0}, {1, 2, 15, 5, -1, 0}};
        for (int d = 0; d < 2; d++) {
            for (int what = 0; what < 6; what++) {
                Kit.due("debt(" + d + ", " + what + ")", want[d][what], x.debt(d, what));
            }
        }
        Kit.dueDebtThrows(x, 2, 0);
        Kit.dueDebtThrows(x, -1, 0);
        Kit.dueDebtThrows(x, 0, 6);
        Kit.dueDebtThrows(x, 0, -1);
        x.hours(3);
        Kit.due("paid in hour", 2, x.debt(0, 4));
        Kit.due("a debt that is paid is not due", 0, x.debt(0, 5));
        HungerDays y = Kit.of("person a 0 30 0;person b 0 0 0;debt a b 1 3;debt b a 1 0;");
        Kit.due("due now", 1, y.debt(0, 5));
        Kit.due("due now by date 0", 1, y.debt(1, 5));
        y.ail(0);
        Kit.due("not due of the ill", 0, y.debt(0, 5));
        y.mend(0);
        y.hours(1);
        Kit.due("stays due without coin", 1, y.debt(0, 5));
    }

    private static void now() {
        HungerDays x = Kit.of(Kit.VALLEY + "meeting club cid;");
        Kit.due("coin", 40, x.now(5));
        Kit.due("portions", 3, x.now(6));
        x.ail(1);
        x.meet(2);
        x.hours(4);
        Kit.due("hour", 4, x.now(0));
        Kit.due("no winter yet", 0, x.now(1));
        Kit.due("ill", 2, x.now(2));
        Kit.due("held", 4, x.now(3));
        Kit.due("paid", 1, x.now(4));
        Kit.due("coin stays", 40, x.now(5));
        int[] winter = {1, 1, 0};
        for (int i = 0; i < 3; i++) {
            x.hours(1);
            Kit.due("winter in hour " + (5 + i), winter[i], x.now(1));
        }
        x.eat(2, 1);
        Kit.due("portions left", 2, x.now(6));
        Kit.due("now(8)", -1, x.now(8));
        Kit.due("now(-1)", -1, x.now(-1));
        Kit.due("winter without one", 0, Kit.of("span 5;").now(1));
        Kit.due("winter from hour 0", 1, Kit.of("winter 0 1;").now(1));
    }

    private static void unpaidHours() {
        HungerDays x = Kit.of("person a 5 0 0;person b 0 0 9;person c 5 0 5;debt a c 5 1;debt b a 5 0;debt c b 250 1;");
        x.hours(1);
        Kit.due("nothing was due and unpaid", 0, x.now(7));
        Kit.due("b has paid", 0, x.debt(1, 4));
        x.hours(1);
        Kit.due("a pays in the hour in which it is due", 1, x.debt(0, 4));
        Kit.due("c can't", 1, x.now(7));
        x.hours(7);
        Kit.due("an hour counts once", 8, x.now(7));
        x.undo();
        Kit.due("undone", 1, x.now(7));
        HungerDays y = Kit.of("person a 0 9 0;person b 0 9 1;debt a b 1 0;debt b a 1 0;");
        y.hours(1);
        Kit.due("debt by debt: the first came too early", 1, y.now(7));
        Kit.due("the second is paid", 2, y.now(4));
        y.hours(1);
        Kit.due("the first is paid an hour later", 1, y.debt(0, 4));
        Kit.due("no more", 1, y.now(7));
    }

    private static void dates() {
        HungerDays x = Kit.of("span 5;person a 0 199 0;person b 0 4 0;person c 0 5 0;person d 0 9 0;person e 0 0 0;");
        Kit.due("on 0", 18, x.on(0));
        Kit.due("on 1", 12, x.on(1));
        Kit.due("on 39", 1, x.on(39));
        Kit.due("on 199", 0, x.on(199));
        Kit.due("on 200", -1, x.on(200));
        Kit.due("on -1", -1, x.on(-1));
        Kit.due("the least of like ones", 0, x.common());
        x.ail(1);
        Kit.due("the ill have dates", 18, x.on(0));
        HungerDays y = Kit.of("person a 0 99 0;person b 0 9 0;person c 0 95 0;");
        Kit.due("the most", 9, y.common());
        Kit.due("nobody", -1, new HungerDays().common());
        HungerDays z = Kit.of("span 1;person a 0 199 0;");
        Kit.due("on 199", 1, z.on(199));
        Kit.due("common 199", 199, z.common());
    }
}
