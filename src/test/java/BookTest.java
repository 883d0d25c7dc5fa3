/** Promises 34 and 35: books, their faults, what they tell. */
final class BookTest {
    public static void main(String[] args) {
        good();
        wrong();
        reasons();
        faults();
        lives();
        Kit.end();
    }

    private static void dueTold(HungerDays x, int why, int lines, int hour, int held) {
        Kit.due("why", why, x.told(0));
        Kit.due("lines", lines, x.told(1));
        Kit.due("hour then", hour, x.told(2));
        Kit.due("held then", held, x.told(3));
    }

    private static void good() {
        HungerDays x = Kit.of(Kit.VALLEY);
        Kit.due("told ahead of any", -1, x.told(1));
        Kit.due("empty book", -1, x.book(0));
        dueTold(x, 0, 0, 0, 0);
        Kit.due("judged", -1, Kit.book(x, "bob eats cheese;meet court;hour 60;cid ails;cid mends;", 0));
        dueTold(x, 0, 5, 60, 1);
        Kit.due("all stays", 0, x.now(0));
        Kit.due("portions stay", 3, x.now(6));
        Kit.due("lived", -1, Kit.book(x, "bob eats cheese\n;meet court;hour 60;cid ails;cid mends;", 1));
        dueTold(x, 0, 5, 60, 1);
        Kit.due("hour", 60, x.now(0));
        Kit.due("held", 0, x.meeting(0, 1));
        Kit.due("told(4)", -1, x.told(4));
        Kit.due("told(-1)", -1, x.told(-1));
    }

    private static void wrong() {
        HungerDays x = Kit.of(Kit.VALLEY);
        Kit.due("wrong in line 2", 2, Kit.book(x, "hour 1;bob eats cheese;ann eats cheese;hour 5;", 1));
        dueTold(x, 2, 2, 1, 0);
        Kit.due("lived as far", 1, x.now(0));
        Kit.due("lived as far", 0, x.food(1, 1));
        Kit.due("undone at once", 0, x.undo());
        Kit.due("hour", 0, x.now(0));
        Kit.due("portions", 1, x.food(1, 1));
        Kit.due("wrong in line 0", 0, Kit.book(x, "ann mends;", 0));
        dueTold(x, 21, 0, 0, 0);
        Kit.due("a fault leaves what was told", -2, Kit.book(x, "x eats bread;", 0));
        dueTold(x, 21, 0, 0, 0);
    }

    private static void dueWhy(String text, int line, int why) {
        HungerDays x = Kit.of(Kit.VALLEY + "person dan 0 0 0;meeting club dan;");
        Kit.due("book " + text, line, Kit.book(x, text, 0));
        Kit.due("why of " + text, why, x.told(0));
    }

    private static void reasons() {
        dueWhy("ann ails;ann eats bread;", 1, 1);
        dueWhy("ann eats cheese;ann eats cheese;", 1, 2);
        dueWhy("dan eats cheese;", 0, 3);
        dueWhy("ann ails;ann ails;", 1, 11);
        dueWhy("ann mends;", 0, 21);
        dueWhy("meet club;meet club;", 1, 31);
        dueWhy("ann ails;meet court;", 1, 32);
        dueWhy("meet court;", 0, 33);
        dueWhy("hour 60;" + Kit.repeat("hour 60;", 9) + "hour 1;", 10, 41);
        HungerDays x = Kit.of(Kit.VALLEY);
        Kit.book(x, Kit.repeat("hour 60;", 9) + "hour 59;hour 2;", 1);
        dueTold(x, 41, 10, 599, 0);
        Kit.due("a line that is wrong is not lived", 599, x.now(0));
        Kit.due("the last hour", -1, Kit.book(x, "hour 1;", 1));
    }

    private static void faults() {
        Kit.dueBookFault("x eats bread;", 0, 3);
        Kit.dueBookFault("bread eats bread;", 0, 3);
        Kit.dueBookFault("ann eats cid;", 9, 3);
        Kit.dueBookFault("ann eats x;", 9, 3);
        Kit.dueBookFault("ann eats ails;", 9, 1);
        Kit.dueBookFault("ann ill;", 4, 1);
        Kit.dueBookFault("ann bread;", 4, 1);
        Kit.dueBookFault("ann", 3, 1);
        Kit.dueBookFault("ann ails", 8, 1);
        Kit.dueBookFault("ann ails ann", 9, 1);
        Kit.dueBookFault("eats bread;", 0, 1);
        Kit.dueBookFault("span 5;", 0, 1);
        Kit.dueBookFault("meet ann;", 5, 3);
        Kit.dueBookFault("meet 5;", 5, 1);
        Kit.dueBookFault("hour 0;", 5, 2);
        Kit.dueBookFault("hour 61;", 5, 2);
        Kit.dueBookFault("hour x;", 5, 1);
        Kit.dueBookFault("hour 1000;", 5, 1);
        Kit.dueBookFault("hour 1;;", 7, 1);
        String forty = Kit.repeat("hour 1;", 40);
        HungerDays x = Kit.of(Kit.VALLEY);
        Kit.due("40 lines", -1, Kit.book(x, forty, 0));
        Kit.due("lines", 40, x.told(1));
        Kit.dueBookFault(forty + "hour 0;", 280, 4);
        Kit.dueBookFault(forty + " meet 5", 281, 4);
        Kit.dueBookFault(forty + "ann 5", 280, 4);
        Kit.dueBookFault(forty + "x ails;", 280, 3);
        Kit.dueBookFault(forty + "ails;", 280, 1);
        Kit.dueBookFault(forty + "?", 280, 1);
        Kit.due("400 bytes", -1, Kit.book(x, forty + Kit.repeat("\n", 120), 0));
        Kit.dueBookFault(forty + Kit.repeat("\n", 121), 400, 1);
        Kit.dueBookFault(forty + Kit.repeat("\n", 119) + "hour 1;", 399, 4);
        Kit.dueBookFault(forty + Kit.repeat("\n", 119) + "hours 1;", 399, 3);
        Kit.dueBookFault(Kit.repeat("\n", 395) + "hour 1;", 400, 1);
    }

    private static void lives() {
        HungerDays x = Kit.of(Kit.VALLEY);
        Kit.book(x, "?", 0);
        Kit.put(x, "hour 5;");
        Kit.due("book(2)", -1000, x.book(2));
        Kit.due("book(-1)", -1000, x.book(-1));
        Kit.due("the tape stays", 7, x.count(5));
        Kit.due("the fault stays", 1, x.fault());
        Kit.due("book(1)", -1, x.book(1));
        Kit.due("the tape is empty then", 0, x.count(5));
        Kit.due("no fault", 0, x.fault());
        Kit.put(x, "hour 0;");
        Kit.due("a fault", -7, x.book(1));
        Kit.due("the tape is empty then", 0, x.count(5));
        Kit.due("nothing is lived", 5, x.now(0));
    }
}
