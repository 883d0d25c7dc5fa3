/** Edges of promises 19 to 24: tables, plates, feasts, what somebody ate. */
final class TableEdgeTest {
    private static final int[] ODD = {-1, -2, 6, 32, Integer.MAX_VALUE, Integer.MIN_VALUE};

    public static void main(String[] args) {
        tableOfNobody();
        tableOfNoSuchOnes();
        tableOfTheIll();
        tableOfOneDateAlready();
        threePortionsAtMost();
        noMoreThanTheStore();
        hungerIsNoughtAtLeast();
        fewestThenLatestThenFirst();
        platesByFoods();
        fullTable();
        platesOfWhom();
        latestTableThatWasNotNone();
        ateOfTwoBytes();
        ateEachPlate();
        ateNeverWithoutHunger();
        ateOfNothing();
        surelyByTheLatestAboveNought();
        askOfLikeOnes();
        Kit.end();
    }

    private static void duePlates(String text, int set, int portions, int date, int... plates) {
        HungerDays x = Kit.of(text);
        Kit.due("table of " + text, portions, x.table(set));
        Kit.due("date of " + text, date, x.feast());
        for (int p = 0; p < plates.length; p++) {
            Kit.due("plate of " + p + " of " + text, plates[p], x.plate(p));
        }
    }

    /** "feast(): .. NONE: nobody was of it, or ahead of any"; "plate(): .. he was not of it .. or ahead of any". */
    private static void tableOfNobody() {
        HungerDays x = Kit.of(Kit.VALLEY);
        Kit.due("feast ahead of any", -1, x.feast());
        Kit.due("plate ahead of any", -1, x.plate(0));
        Kit.due("table of two", 1, x.table(3));
        Kit.due("table of nobody", 0, x.table(0));
        Kit.due("feast of nobody", -1, x.feast());
        for (int p = 0; p < 3; p++) {
            Kit.due("plate of nobody", -1, x.plate(p));
        }
        HungerDays y = new HungerDays();
        Kit.due("table of nobody where nobody is", 0, y.table(0));
        Kit.due("table of no such one", -1, y.table(1));
        Kit.due("feast", -1, y.feast());
        x.ail(0);
        x.ail(1);
        x.ail(2);
        Kit.due("table of nobody where all are ill", 0, x.table(0));
    }

    /** "NONE: .. no such ones": a bit above the last PERSON. */
    private static void tableOfNoSuchOnes() {
        HungerDays x = Kit.of(Kit.VALLEY);
        for (int set : new int[] {8, 9, 16, 64, 1 << 30, -1, -8, Integer.MAX_VALUE, Integer.MIN_VALUE,
            Integer.MIN_VALUE + 1}) {
            Kit.due("table(" + set + ")", -1, x.table(set));
        }
        HungerDays y = Kit.of(FactsEdgeTest.FULL);
        Kit.due("table(64)", -1, y.table(64));
        Kit.due("table(32)", 0, y.table(32));
        Kit.due("his date", 1, y.feast());
        Kit.due("his plate", 0, y.plate(5));
    }

    /** "NONE: .. one is ill". */
    private static void tableOfTheIll() {
        for (int p = 0; p < 6; p++) {
            HungerDays x = Kit.of(FactsEdgeTest.FULL);
            x.ail(p);
            Kit.due("table of the ill one", -1, x.table(1 << p));
            Kit.due("feast ahead of any", -1, x.feast());
            Kit.due("table of all", -1, x.table(63));
            Kit.due("table of another one", 0, x.table(1 << (p + 1) % 6));
            Kit.due("plate of the ill one", -1, x.plate(p));
            x.mend(p);
            Kit.due("table of one who mended", 0, x.table(1 << p));
        }
    }

    /** No portion at all is needed by those who are of one DATE, be their hunger unlike. */
    private static void tableOfOneDateAlready() {
        duePlates("span 20;person a 0 199 0;person b 0 180 0;food f 1 5;", 3, 0, 9, 0, 0);
        duePlates("span 1;person a 0 199 0;person b 0 199 0;", 3, 0, 199, 0, 0);
        duePlates("person a 0 0 0;person b 0 9 0;food f 60 5;", 3, 0, 0, 0, 0);
        duePlates("span 20;person a 0 180 0;person b 0 179 0;food f 1 5;", 3, 1, 8, 1, 0);
    }

    /** "each eats 3 portions at most". */
    private static void threePortionsAtMost() {
        duePlates("span 1;person a 0 3 0;person b 0 0 0;food f 1 5;", 3, 3, 0, 3, 0);
        duePlates("span 1;person a 0 4 0;person b 0 0 0;food f 1 5;", 3, -1, -1, -1, -1);
        duePlates("span 1;person a 0 4 0;person b 0 0 0;food f 1 5;food g 1 5;", 3, -1, -1, -1, -1);
        duePlates("span 1;person a 0 180 0;person b 0 0 0;food f 60 3;", 3, 3, 0, 3, 0);
        duePlates("span 1;person a 0 181 0;person b 0 0 0;food f 60 5;", 3, -1, -1, -1, -1);
        duePlates("span 20;person a 0 199 0;person b 0 0 0;food f 60 5;", 3, 3, 0, 3, 0);
        duePlates("span 19;person a 0 199 0;person b 0 0 0;food f 60 5;", 3, -1, -1, -1, -1);
    }

    /** "no more of a FOOD in all than its STORE": what is left of it now. */
    private static void noMoreThanTheStore() {
        duePlates("span 1;person a 0 3 0;person b 0 0 0;food f 1 3;", 3, 3, 0, 3, 0);
        duePlates("span 1;person a 0 3 0;person b 0 0 0;food f 1 2;", 3, -1, -1, -1, -1);
        duePlates("span 1;person a 0 3 0;person b 0 0 0;food f 1 2;food g 1 1;", 3, 3, 0, 6, 0);
        duePlates("span 1;person a 0 3 0;person b 0 0 0;food f 3 0;food g 3 1;", 3, 1, 0, 4, 0);
        duePlates("span 1;person a 0 6 0;person b 0 6 0;person c 0 0 0;food f 2 5;", 7, -1, -1, -1, -1, -1);
        duePlates("span 1;person a 0 6 0;person b 0 4 0;person c 0 0 0;food f 2 5;", 7, 5, 0, 3, 2, 0);
        duePlates("span 5;person a 0 15 0;person b 0 9 0;person c 0 14 0;food f 2 5;food g 10 1;", 7, 4, 1, 4, 0, 3);
        duePlates("span 1;person a 0 19 0;person b 0 8 0;food f 8 1;food g 1 2;food h 5 1;", 3, 4, 6, 17, 8);
        duePlates("span 1;person a 0 10 0;person b 0 7 0;food f 1 3;food g 4 5;", 3, 2, 6, 4, 1);
        HungerDays x = Kit.of("span 1;person a 0 4 0;person b 0 0 0;person c 0 9 0;food f 2 2;");
        Kit.due("two portions", 2, x.table(3));
        x.eat(2, 0);
        Kit.due("one is left", -1, x.table(3));
        x.undo();
        Kit.due("two again", 2, x.table(3));
    }

    /** A portion may FILL more than his hunger is. */
    private static void hungerIsNoughtAtLeast() {
        duePlates("span 1;person a 0 1 0;person b 0 0 0;food f 60 5;", 3, 1, 0, 1, 0);
        duePlates("span 1;person a 0 61 0;person b 0 0 0;food f 60 5;", 3, 2, 0, 2, 0);
        duePlates("span 1;person a 0 61 0;person b 0 1 0;food f 60 5;", 3, 1, 1, 1, 0);
    }

    /** "the fewest portions in all; of like ones the latest DATE; of like ones the first: .. the least plate". */
    private static void fewestThenLatestThenFirst() {
        duePlates("span 1;person a 0 10 0;person b 0 7 0;food f 1 5;food g 5 5;food h 2 5;", 3, 2, 7, 17, 0);
        duePlates("span 1;person a 0 10 0;person b 0 7 0;food f 1 5;food g 4 5;", 3, 2, 6, 4, 1);
        duePlates("span 1;person a 0 10 0;person b 0 7 0;food f 1 5;food g 4 5;food h 3 1;", 3, 1, 7, 16, 0);
        duePlates("span 1;person a 0 10 0;person b 0 7 0;food f 3 5;food g 3 5;food h 3 5;food i 3 5;", 3, 1, 7, 1, 0);
        duePlates("span 1;person a 0 10 0;person b 0 7 0;food f 3 0;food g 3 5;food h 3 5;food i 3 5;", 3, 1, 7, 4, 0);
        duePlates("span 1;person a 0 8 0;person b 0 8 0;person c 0 5 0;food f 3 1;food g 3 1;food h 3 1;", 7, 2, 5, 1, 4, 0);
        duePlates("person a 0 29 0;person b 0 29 0;person c 0 10 0;food f 10 1;food g 20 1;food h 18 1;", 7, 2, 1, 1, 16, 0);
    }

    /** "1 for each portion of FOOD 0, 4 for each of FOOD 1, 16 of 2, 64 of 3". */
    private static void platesByFoods() {
        String[] foods = {"food f 7 ", "food g 7 ", "food h 7 ", "food i 7 "};
        for (int f = 0; f < 4; f++) {
            for (int portions = 1; portions <= 3; portions++) {
                StringBuilder text = new StringBuilder("span 1;person a 0 " + 7 * portions + " 0;person b 0 0 0;");
                for (int g = 0; g < 4; g++) {
                    text.append(foods[g]).append(f == g ? 5 : 0).append(';');
                }
                duePlates(text.toString(), 3, portions, 0, portions << 2 * f, 0);
                duePlates(text.toString().replace("person a", "person c"), 1, 0, 7 * portions, 0, -1);
            }
        }
        duePlates("span 1;person a 0 199 0;person b 0 121 0;food f 1 5;food g 1 5;food h 17 5;food i 60 5;", 3, 3, 121, 81, 0);
    }

    /** Six PERSONS, four FOODS, 18 portions of 20; and one more portion than there is. */
    private static void fullTable() {
        String six = "span 1;person a 0 180 0;person b 0 180 0;person c 0 180 0;person d 0 180 0;person e 0 180 0;";
        String foods = "food g 60 5;food h 60 5;food i 60 5;food j 60 ";
        duePlates(six + "person f 0 0 0;" + foods + "5;", 63, 15, 0, 3, 6, 12, 36, 48, 0);
        duePlates(six + "person f 0 0 0;" + foods + "0;", 63, 15, 0, 3, 6, 12, 36, 48, 0);
        duePlates(six + "person f 0 180 0;" + foods + "5;", 63, 0, 180, 0, 0, 0, 0, 0, 0);
        duePlates(six + "person f 0 120 0;" + foods + "5;", 63, 5, 120, 1, 1, 1, 1, 1, 0);
        duePlates(six + "person f 0 60 0;" + foods + "0;", 63, 10, 60, 2, 2, 5, 8, 8, 0);
        duePlates(six + "person f 0 0 0;food g 60 5;food h 60 5;food i 60 4;", 63, -1, -1, -1, -1, -1, -1, -1, -1);
    }

    /** "NONE: he was not of it, no such one". */
    private static void platesOfWhom() {
        HungerDays x = Kit.of(FactsEdgeTest.FULL);
        Kit.due("table of the first and the last", 0, x.table(16 + 32));
        for (int p = 0; p < 6; p++) {
            Kit.due("plate of " + p, p > 3 ? 0 : -1, x.plate(p));
        }
        for (int odd : ODD) {
            Kit.due("plate(" + odd + ")", -1, x.plate(odd));
        }
    }

    /** "by the latest table() that was not NONE". */
    private static void latestTableThatWasNotNone() {
        HungerDays x = Kit.of(Kit.VALLEY);
        x.table(3);
        for (int set : new int[] {7, 8, -1}) {
            Kit.due("table(" + set + ")", -1, x.table(set));
            Kit.due("the feast stays", 2, x.feast());
            Kit.due("the plate stays", 4, x.plate(1));
        }
        x.ail(0);
        Kit.due("of the ill", -1, x.table(1));
        Kit.due("the plate of one who is ill now stays", 0, x.plate(0));
        x.hours(60);
        x.eat(1, 1);
        Kit.due("the plate stays as hours go", 4, x.plate(1));
        x.undo();
        Kit.due("the plate stays as acts are undone", 4, x.plate(1));
        Kit.due("a table of him alone", 0, x.table(2));
        Kit.due("his plate is another one", 0, x.plate(1));
        Kit.due("another table", 0, x.table(4));
        Kit.due("its feast", 7, x.feast());
        Kit.due("who was not of it", -1, x.plate(1));
        Kit.due("who was", 0, x.plate(2));
    }

    /** "NONE: not as told (two bytes, the first 199 at most)". */
    private static void ateOfTwoBytes() {
        HungerDays x = Kit.of("span 1;food f 1 0;");
        for (int size : new int[] {0, 1, 3, 4, 20, 940}) {
            Kit.put(x, new byte[size]);
            Kit.due("ate of " + size + " bytes", -1, x.ate());
            Kit.due("the tape is empty then", 0, x.count(5));
        }
        Kit.due("hunger 199", 1, Kit.ate(x, 199, 199));
        Kit.due("hunger 200", -1, Kit.ate(x, 200, 199));
        Kit.due("hunger 255", -1, Kit.ate(x, 255, 255));
        Kit.due("hunger 0", 1, Kit.ate(x, 0, 0));
        Kit.due("date 255", 0, Kit.ate(x, 199, 255));
        Kit.due("a later date", 0, Kit.ate(x, 5, 6));
        Kit.due("three portions", 1, Kit.ate(x, 5, 2));
        Kit.due("four portions", 0, Kit.ate(x, 5, 1));
    }

    /** "plates of 3 portions at most (STORES of no matter ..)": each of the 35, told by its own DATE. */
    private static void ateEachPlate() {
        int[] fills = {1, 4, 16, 60};
        int plates = 0;
        for (int plate = 0; plate < 256; plate++) {
            int portions = 0;
            int sum = 0;
            int bits = 0;
            for (int f = 0; f < 4; f++) {
                int of = plate >> 2 * f & 3;
                portions += of;
                sum += of * fills[f];
                bits |= of > 0 ? 1 << f : 0;
            }
            if (portions <= 3) {
                HungerDays x = Kit.of("span 1;food f 1 0;food g 4 0;food h 16 1;food i 60 5;");
                Kit.due("plate " + plate, 1, Kit.ate(x, 199, 199 - sum));
                Kit.due("surely of plate " + plate, bits, x.surely());
                Kit.due("the first of like ones", 0, x.ask());
                plates++;
            }
        }
        Kit.due("plates", 35, plates);
        String[] foods = {"", "food f 1 0;", "food g 1 0;", "food h 1 0;", "food i 1 0;"};
        int[] want = {1, 4, 10, 20, 35};
        StringBuilder text = new StringBuilder("span 20;");
        for (int many = 0; many < 5; many++) {
            text.append(foods[many]);
            Kit.due("all plates of " + many + " foods", want[many], Kit.ate(Kit.of(text.toString()), 199, 9));
        }
    }

    /** "never without hunger in one order of them at least". */
    private static void ateNeverWithoutHunger() {
        int[] want = {1, 2, 2, 2, 3, 3, 3, 4, 4, 4, 3, 3, 2, 2, 1, 1, 0};
        HungerDays x = Kit.of("span 1;food f 3 5;food g 5 5;");
        for (int hunger = 0; hunger < want.length; hunger++) {
            Kit.due("ate from hunger " + hunger + " to 0", want[hunger], Kit.ate(x, hunger, 0));
        }
    }

    /** "of nothing, too". */
    private static void ateOfNothing() {
        HungerDays x = Kit.of("span 20;food f 60 5;");
        Kit.due("nothing", 1, Kit.ate(x, 199, 9));
        Kit.due("surely", 0, x.surely());
        Kit.due("nothing, without hunger", 1, Kit.ate(x, 0, 0));
        Kit.due("nothing, or one portion", 2, Kit.ate(x, 19, 0));
        Kit.due("without foods", 1, Kit.ate(new HungerDays(), 0, 0));
        Kit.due("without foods", 0, Kit.ate(new HungerDays(), 10, 0));
    }

    /** "by the latest ate() above 0; NONE ahead of any". */
    private static void surelyByTheLatestAboveNought() {
        HungerDays x = Kit.of("span 1;food f 3 5;food g 5 5;");
        Kit.due("ate of none", 0, Kit.ate(x, 10, 11));
        Kit.due("surely ahead of any", -1, x.surely());
        Kit.due("ask ahead of any", -1, x.ask());
        Kit.due("ate 8", 1, Kit.ate(x, 18, 10));
        Kit.due("surely", 3, x.surely());
        Kit.due("ate 16", 0, Kit.ate(x, 18, 2));
        Kit.due("surely stays", 3, x.surely());
        Kit.due("not as told", -1, x.ate());
        Kit.due("surely stays", 3, x.surely());
        Kit.due("ate 15", 1, Kit.ate(x, 18, 3));
        Kit.due("surely", 2, x.surely());
        Kit.due("ate 3", 1, Kit.ate(x, 18, 15));
        Kit.due("surely", 1, x.surely());
        x.valley();
        Kit.due("surely stays in a new valley", 1, x.surely());
        Kit.due("ask stays in a new valley", 0, x.ask());
    }

    /** "the FOOD of which these plates have most unlike numbers of portions (of like ones the first)"; "there is none". */
    private static void askOfLikeOnes() {
        HungerDays x = Kit.of("span 1;food f 5 0;food g 3 0;");
        Kit.due("7 by five and three", 4, Kit.ate(x, 7, 0));
        Kit.due("the second: 0, 1, 2, 3", 1, x.ask());
        Kit.due("nothing surely", 0, x.surely());
        Kit.due("one plate", 1, Kit.ate(x, 7, 7));
        Kit.due("of like ones the first", 0, x.ask());
        HungerDays y = Kit.of("span 2;food f 60 0;food g 59 0;food h 1 0;food i 1 0;");
        Kit.due("120 or 121", 5, Kit.ate(y, 199, 39));
        Kit.due("two unlike numbers of each: the first", 0, y.ask());
        Kit.due("0 or 1", 3, Kit.ate(y, 199, 99));
        Kit.due("one number of the first two", 2, y.ask());
        HungerDays z = new HungerDays();
        Kit.due("without foods", 1, Kit.ate(z, 5, 0));
        Kit.due("there is none", -1, z.ask());
        Kit.due("surely", 0, z.surely());
        Kit.valley(z, "span 1;food f 1 1;");
        Kit.due("there is one now", 1, Kit.ate(z, 5, 5));
        Kit.due("ask", 0, z.ask());
        z.valley();
        Kit.due("without foods again", 1, Kit.ate(z, 5, 0));
        Kit.due("there is none", -1, z.ask());
    }
}
