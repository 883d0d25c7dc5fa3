/** Promises 4 and 5: the text of a valley, its faults and their places. */
final class ValleyTest {
    private static final String SIX = "person a 0 0 0;person b 0 0 0;person c 0 0 0;"
            + "person d 0 0 0;person e 0 0 0;person f 0 0 0;";

    public static void main(String[] args) {
        good();
        stays();
        tokens();
        numbers();
        names();
        tooMany();
        mostBytes();
        newValley();
        Kit.end();
    }

    private static void good() {
        HungerDays x = new HungerDays();
        Kit.due("empty valley", 0, x.valley());
        Kit.due("fault", 0, x.fault());
        Kit.due("blanks alone", 0, Kit.valley(x, " \n "));
        Kit.due("without blanks", 2, Kit.valley(x, "span 5;person a 1 2 3;"));
        Kit.due("blanks anywhere", 2, Kit.valley(x, "\nspan\n5 ;\n person  a 1\n2 3 ; "));
        Kit.due("span", 5, x.count(4));
        Kit.due("seven letters, three digits", 1, Kit.valley(x, "person abcdefg 009 199 999;"));
        Kit.due("grows", 9, x.person(0, 5));
        Kit.due("winter ahead of its edges", 1, Kit.valley(x, "winter 399 200;"));
        Kit.due("span and winter last", 3, Kit.valley(x, "person a 0 39 0;winter 0 1;span 20;"));
        Kit.due("date by the span told last", 1, x.person(0, 1));
        Kit.due("as many as may be", 26, Kit.valley(x, SIX + "food g 60 5;food h 1 0;food i 1 0;food j 1 0;"
                + "meeting k a;meeting l a;meeting m a;meeting n a;meeting o a;meeting p a b c d e f;"
                + "debt a b 1 0;debt b a 250 199;debt a c 1 1;debt a d 1 1;debt a e 1 1;debt a f 1 1;"
                + "debt b c 1 1;debt b d 1 1;debt b e 1 1;debt b f 1 1;"));
    }

    private static void stays() {
        HungerDays x = Kit.of(Kit.VALLEY);
        x.hours(3);
        Kit.due("a fault", -1, Kit.valley(x, "x"));
        Kit.due("fault", 1, x.fault());
        Kit.due("the tape is empty then", 0, x.count(5));
        Kit.due("the valley stays", 3, x.count(0));
        Kit.due("the hour stays", 3, x.now(0));
        Kit.due("the act can be undone", 0, x.undo());
        Kit.due("fault stays", 1, x.fault());
        Kit.due("no fault", 0, Kit.valley(x, ""));
        Kit.due("fault is none", 0, x.fault());
    }

    private static void tokens() {
        Kit.dueValleyFault("x;", 0, 1);
        Kit.dueValleyFault(";", 0, 1);
        Kit.dueValleyFault("5;", 0, 1);
        Kit.dueValleyFault("eats;", 0, 1);
        Kit.dueValleyFault("span", 4, 1);
        Kit.dueValleyFault("span 5", 6, 1);
        Kit.dueValleyFault("span 5 ", 7, 1);
        Kit.dueValleyFault("span ;", 5, 1);
        Kit.dueValleyFault("span x;", 5, 1);
        Kit.dueValleyFault("span 5 5;", 7, 1);
        Kit.dueValleyFault("span 0005;", 5, 1);
        Kit.dueValleyFault("span5;", 0, 1);
        Kit.dueValleyFault("span 5a;", 5, 1);
        Kit.dueValleyFault("span\t5;", 4, 1);
        Kit.dueValleyFault("span 5.", 6, 1);
        Kit.dueValleyFault("span 5;;", 7, 1);
        Kit.dueValleyFault("Span 5;", 0, 1);
        Kit.dueValleyFault("span \u00e9;", 5, 1);
        Kit.dueValleyFault("winter 1;", 8, 1);
        Kit.dueValleyFault("person abcdefgh 0 0 0;", 7, 1);
        Kit.dueValleyFault("person a1 0 0 0;", 7, 1);
        Kit.dueValleyFault("person 1 0 0 0;", 7, 1);
        Kit.dueValleyFault("person a 0 0;", 12, 1);
        Kit.dueValleyFault("food a 1;", 8, 1);
        Kit.dueValleyFault("meeting m;", 9, 1);
        Kit.dueValleyFault("meeting m 5;", 10, 1);
        Kit.dueValleyFault("person a 0 0 0;meeting m a", 26, 1);
        Kit.dueValleyFault("person a 0 0 0;meeting m a 7;", 27, 1);
        Kit.dueValleyFault("person a 0 0 0;meeting m a span;", 27, 1);
        for (String word : ("span winter person food meeting debt eats ails mends meet hour "
                + "or and not ill owes like in date hunger coin number").split(" ")) {
            Kit.dueValleyFault("person " + word + " 0 0 0;", 7, 1);
            Kit.dueValleyFault("debt " + word + " b 1 1;", 5, 1);
        }
    }

    private static void numbers() {
        Kit.dueValleyFault("span 0;", 5, 2);
        Kit.dueValleyFault("span 21;", 5, 2);
        Kit.dueValleyFault("winter 400 1;", 7, 2);
        Kit.dueValleyFault("winter 0 0;", 9, 2);
        Kit.dueValleyFault("winter 0 201;", 9, 2);
        Kit.dueValleyFault("person a 10 0 0;", 9, 2);
        Kit.dueValleyFault("person a 0 200 0;", 11, 2);
        Kit.dueValleyFault("food a 0 0;", 7, 2);
        Kit.dueValleyFault("food a 61 0;", 7, 2);
        Kit.dueValleyFault("food a 1 6;", 9, 2);
        Kit.dueValleyFault(SIX + "debt a b 0 1;", 99, 2);
        Kit.dueValleyFault(SIX + "debt a b 251 1;", 99, 2);
        Kit.dueValleyFault(SIX + "debt a b 1 200;", 101, 2);
    }

    private static void names() {
        Kit.dueValleyFault("span 1;span 0;", 7, 3);
        Kit.dueValleyFault("winter 0 1; winter 0 1;", 12, 3);
        Kit.dueValleyFault("person a 0 0 0;person a 0 0 0;", 22, 3);
        Kit.dueValleyFault("person a 0 0 0;food a 1 1;", 20, 3);
        Kit.dueValleyFault("food a 1 1;meeting a a;", 19, 3);
        Kit.dueValleyFault("meeting m p;person p 0 0 0;", 10, 3);
        Kit.dueValleyFault("food p 1 1;meeting m p;", 21, 3);
        Kit.dueValleyFault("person p 0 0 0;meeting m m;", 25, 3);
        Kit.dueValleyFault("person p 0 0 0;meeting m p p;", 27, 3);
        Kit.dueValleyFault(SIX + "debt g a 1 1;", 95, 3);
        Kit.dueValleyFault(SIX + "debt a g 1 1;", 97, 3);
        Kit.dueValleyFault(SIX + "debt a a 1 1;", 97, 3);
        Kit.dueValleyFault(SIX + "debt a b 1 1;debt a b 1 1;", 110, 3);
        HungerDays x = Kit.of(SIX + "debt a b 1 1;debt b a 1 1;");
        Kit.due("the other order is another debt", 2, x.count(3));
    }

    private static void tooMany() {
        Kit.dueValleyFault(SIX + "person a", 90, 4);
        Kit.dueValleyFault("food a 1 1;food b 1 1;food c 1 1;food d 1 1;food", 44, 4);
        String meetings = "";
        for (char c = 'm'; c < 's'; c++) {
            meetings += "meeting " + c + " a;";
        }
        Kit.dueValleyFault(SIX + meetings + "meeting a", 162, 4);
        String debts = "";
        for (char c = 'b'; c < 'g'; c++) {
            debts += "debt a " + c + " 1 1;debt " + c + " a 1 1;";
        }
        Kit.dueValleyFault(SIX + debts + "debt a a", 220, 4);
    }

    private static void mostBytes() {
        String good = "span 5;";
        HungerDays x = new HungerDays();
        Kit.due("900 bytes", 1, Kit.valley(x, good + Kit.repeat(" ", 893)));
        Kit.dueValleyFault(good + Kit.repeat(" ", 894), 900, 1);
        Kit.dueValleyFault(Kit.repeat(" ", 894) + "span 5;", 900, 1);
        Kit.dueValleyFault(Kit.repeat(" ", 895) + "span 0;", 900, 1);
        Kit.dueValleyFault(Kit.repeat(" ", 894) + "span 0;", 899, 2);
        Kit.dueValleyFault(Kit.repeat(" ", 894) + "span 0005;", 899, 1);
        Kit.dueValleyFault(Kit.repeat(" ", 894) + "span 005;", 900, 1);
        Kit.dueValleyFault(Kit.repeat(" ", 899) + "xx", 899, 1);
        Kit.dueValleyFault(Kit.repeat(" ", 899) + "span 0;", 900, 1);
        Kit.dueValleyFault(Kit.repeat(" ", 900) + "!", 900, 1);
    }

    private static void newValley() {
        HungerDays x = Kit.of(Kit.VALLEY);
        Kit.sentence(x, "ill");
        x.ail(0);
        x.mend(0);
        x.ail(1);
        x.hours(9);
        Kit.valley(x, Kit.VALLEY);
        Kit.due("hour of a new valley", 0, x.now(0));
        Kit.due("nobody is ill", 0, x.now(2));
        Kit.due("nothing is paid", 0, x.now(4));
        Kit.due("no hours with debts unpaid", 0, x.now(7));
        Kit.due("no sentence", -1, x.said(-1));
        Kit.due("nothing to undo", -1, x.undo());
    }
}
