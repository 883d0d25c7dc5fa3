/** Promises 19 to 24: tables, plates, what somebody ate. */
final class TableTest {
    public static void main(String[] args) {
        tables();
        likeOnes();
        stores();
        staysOfTables();
        ate();
        asking();
        Kit.end();
    }

    private static void tables() {
        HungerDays x = Kit.of(Kit.VALLEY);
        Kit.due("table(0)", 0, x.table(0));
        Kit.due("nobody", -1, x.feast());
        Kit.due("table(1)", 0, x.table(1));
        Kit.due("his date", 2, x.feast());
        Kit.due("empty plate", 0, x.plate(0));
        Kit.due("table(3)", 1, x.table(3));
        Kit.due("plate of ann", 0, x.plate(0));
        Kit.due("plate of bob", 4, x.plate(1));
        Kit.due("cid was not of it", -1, x.plate(2));
        Kit.due("no such person", -1, x.plate(3));
        Kit.due("no such person", -1, x.plate(-1));
        Kit.due("date", 2, x.feast());
        Kit.due("never", -1, x.table(7));
        Kit.due("no such ones", -1, x.table(8));
        Kit.due("no such ones", -1, x.table(-1));
        Kit.due("no such ones", -1, x.table(Integer.MIN_VALUE));
        x.ail(0);
        Kit.due("one is ill", -1, x.table(1));
        Kit.due("the ill one is not of it", 0, x.table(2));
    }

    private static void likeOnes() {
        HungerDays x = Kit.of("person a 0 25 0;person b 0 15 0;food f 10 5;food g 10 5;food h 30 5;");
        Kit.due("one portion", 1, x.table(3));
        Kit.due("the least plate", 1, x.plate(0));
        Kit.due("the latest date", 1, x.feast());
        HungerDays y = Kit.of("span 1;person a 0 12 0;person b 0 13 0;food f 3 5;food g 4 5;food h 5 5;");
        Kit.due("two portions", 2, y.table(3));
        Kit.due("the latest of like ones", 9, y.feast());
        Kit.due("plate of a", 1, y.plate(0));
        Kit.due("plate of b", 4, y.plate(1));
        HungerDays z = Kit.of("person a 0 3 0;person b 0 30 0;food f 10 5;food g 60 5;");
        Kit.due("one that fills more than hunger", 1, z.table(3));
        Kit.due("plate of b", 4, z.plate(1));
        HungerDays w = Kit.of("span 1;person a 0 0 0;person b 0 5 0;food f 5 1;food g 1 5;");
        Kit.due("without hunger nobody eats", 1, w.table(3));
        Kit.due("plate of a", 0, w.plate(0));
        HungerDays v = Kit.of("span 1;person a 0 0 0;person b 0 5 0;food f 1 5;food g 4 1;food h 3 1;");
        Kit.due("two of three portions", 2, v.table(3));
        Kit.due("plate of b", 5, v.plate(1));
    }

    private static void stores() {
        HungerDays x = Kit.of("span 1;person a 0 9 0;person b 0 9 0;person c 0 6 0;food f 3 1;food g 1 5;");
        Kit.due("stores", 4, x.table(7));
        Kit.due("plate of a", 1, x.plate(0));
        Kit.due("plate of b", 12, x.plate(1));
        Kit.due("plate of c", 0, x.plate(2));
        x.eat(0, 0);
        Kit.due("what is left counts", 3, x.table(7));
        Kit.due("plate of b", 12, x.plate(1));
        HungerDays y = Kit.of("span 1;person a 0 9 0;person b 0 5 0;food f 1 5;");
        Kit.due("three portions at most", -1, y.table(3));
        HungerDays z = Kit.of("person a 0 9 0;person b 0 15 0;");
        Kit.due("without foods", -1, z.table(3));
        HungerDays w = Kit.of("span 1;person a 0 180 0;person b 0 180 0;person c 0 180 0;person d 0 180 0;"
                + "person e 0 180 0;person f 0 6 0;food g 58 5;food h 58 5;food i 58 5;food j 58 5;");
        Kit.due("fifteen portions", 15, w.table(63));
        Kit.due("date", 6, w.feast());
        Kit.due("the least plate first", 3, w.plate(0));
        Kit.due("then what is left", 6, w.plate(1));
        Kit.due("then what is left", 12, w.plate(2));
        Kit.due("then what is left", 36, w.plate(3));
        Kit.due("then what is left", 48, w.plate(4));
        Kit.due("nothing", 0, w.plate(5));
    }

    private static void staysOfTables() {
        HungerDays x = Kit.of(Kit.VALLEY);
        x.table(3);
        x.table(7);
        Kit.due("a table that is never stays away", 4, x.plate(1));
        x.image(0);
        Kit.valley(x, "person a 0 0 0;");
        Kit.due("the date stays", 2, x.feast());
        Kit.due("the plate stays", 0, x.plate(0));
        Kit.due("there is no such person now", -1, x.plate(1));
        x.restore(0);
        Kit.due("there is one again", 4, x.plate(1));
        x.table(0);
        Kit.due("a table of nobody", -1, x.plate(1));
    }

    private static void ate() {
        HungerDays x = Kit.of(Kit.VALLEY);
        Kit.due("tape of no bytes", -1, x.ate());
        Kit.due("surely ahead of any", -1, x.surely());
        Kit.due("ask ahead of any", -1, x.ask());
        Kit.due("too much hunger", -1, Kit.ate(x, 200, 1));
        Kit.due("the tape is empty then", 0, x.count(5));
        Kit.put(x, "abc");
        Kit.due("tape of three bytes", -1, x.ate());
        Kit.due("no plate", 0, Kit.ate(x, 47, 9));
        Kit.due("surely ahead of any", -1, x.surely());
        Kit.due("of 199", 2, Kit.ate(x, 199, 19));
        Kit.due("nothing surely", 0, x.surely());
        Kit.due("ask", 0, x.ask());
        Kit.due("two", 2, Kit.ate(x, 47, 1));
        Kit.due("both surely", 3, x.surely());
        Kit.due("ask", 0, x.ask());
        Kit.due("none", 0, Kit.ate(x, 47, 255));
        Kit.due("stays", 3, x.surely());
        Kit.due("no hunger: nothing alone", 1, Kit.ate(x, 0, 0));
        Kit.due("surely", 0, x.surely());
        Kit.due("the greatest last: 8, 8, 20 by 17, but not 20 ahead", 6, Kit.ate(x, 17, 0));
        Kit.due("stores are of no matter", 1, Kit.ate(x, 62, 0));
        Kit.due("cheese alone", 2, x.surely());
    }

    private static void asking() {
        HungerDays x = Kit.of("span 20;food f 1 0;food g 2 0;food h 3 0;food i 20 0;");
        Kit.due("all without the fourth", 20, Kit.ate(x, 39, 1));
        Kit.due("surely", 0, x.surely());
        Kit.due("the first of like ones", 0, x.ask());
        HungerDays y = Kit.of("span 20;food f 19 0;food g 1 0;");
        Kit.due("f at most once", 5, Kit.ate(y, 39, 1));
        Kit.due("the second tells more", 1, y.ask());
        HungerDays z = new HungerDays();
        Kit.due("without foods", 1, Kit.ate(z, 19, 1));
        Kit.due("surely", 0, z.surely());
        Kit.due("there is none", -1, z.ask());
    }
}
