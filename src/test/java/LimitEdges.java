/** Promises 4 and 5 with part I of the terms: how many of each statement, which names and numbers can be. */
final class LimitEdges extends Edges {
    private static final String TWO = "place pa;place pb;";

    private LimitEdges() {
    }

    static void all() {
        places();
        doors();
        keysAndPersons();
        having();
        shutting();
        losing();
        things();
        wanting();
        musts();
        bars();
        faultsThree();
        faultsFour();
        faultsFive();
        allAtOnce();
    }

    /** So many statements, each given by this one with # for a name of its own. */
    private static String times(int count, String statement) {
        StringBuilder text = new StringBuilder();
        for (int i = 0; i < count; i++) {
            text.append(statement.replace('#', (char) ('a' + i)));
        }
        return text.toString();
    }

    /** One less than the most, the most, one too many, which is told at its first byte whatever follows. */
    private static void most(String ahead, int most, int what, String statement) {
        int told = ahead.length() - ahead.replace(";", "").length();
        int had = town(ahead).has(what);
        for (int count = most - 1; count <= most; count++) {
            String text = ahead + times(count - had, statement);
            good(text, told + count - had);
            due(town(text).has(what), count);
        }
        String full = ahead + times(most - had, statement);
        String word = statement.substring(0, statement.indexOf(' '));
        faulty(full + "^" + statement.replace('#', 'y'), 5);
        faulty(full + " \n ^" + statement.replace('#', 'y'), 5);
        faulty(full + "^" + word, 5);
        faulty(full + "^" + word + " !", 5);
        faulty(full + "^" + word + " at;", 5);
        faulty(full + "^" + word + " nobody;", 5);
        faulty(full + "^" + word + ";;", 5);
        faulty(full + "^" + word.substring(1) + " y;", 1);
    }

    private static void places() {
        says(4, "STATEMENTS: place NAME (8 PLACES);");
        most("", 8, 0, "place p#;");
        most("place one;box tin at one;", 8, 0, "place p#;");
        StackKeys x = town(times(8, "place p#;"));
        due(x.letter(0, 7, 1), 'h');
        due(x.letter(0, 8, 1), NONE);
    }

    private static void doors() {
        says(4, "door NAME NAME NAME N (two unlike PLACES, 1 .. 99 minutes),");
        good(TWO + "door d pa pb 1;door e pb pa 99;", 4);
        faulty(TWO + "door d pa ^pa 1;", 3);
        faulty(TWO + "door d pb ^pb 1;", 3);
        faulty(TWO + "door d pb ^pb", 3);
        faulty(TWO + "door d pa pb ^0;", 4);
        faulty(TWO + "door d pa pb ^100;", 4);
        faulty(TWO + "door d pa pb ^9999;", 4);
        faulty(TWO + "door d pa pb ^0000;", 4);
        faulty(TWO + "door d pa pb ^0100;", 4);
        good(TWO + "door d pa pb 0099;", 3);
        faulty(TWO + "door d pa pb ^;", 1);
        faulty(TWO + "door d pa pb ^pa;", 1);
        says(4, "box NAME at NAME (a PLACE)");
        good(TWO + "box d at pa;box e at pa;box f at pb;", 5);
        faulty(TWO + "box d at pa;box e at ^d;", 3);
        faulty(TWO + "box d ^pa;", 1);
        says(4, "(10 DOORS and BOXES together, numbered as they come);");
        most(TWO, 10, 1, "door d# pa pb 1;");
        most(TWO, 10, 1, "box d# at pb;");
        most(TWO + times(5, "box b# at pa;"), 10, 1, "door d# pa pb 1;");
        most(TWO + times(9, "door b# pa pb 5;"), 10, 1, "box d# at pb;");
        faulty(TWO + times(10, "door d# pa pb 1;") + "^box b at pa;", 5);
        faulty(TWO + times(10, "box d# at pa;") + "^door b pa pb 1;", 5);
        StackKeys x = town(TWO + "door u pa pb 3;box v at pb;door w pb pa 4;" + times(7, "box d# at pa;"));
        int[][] due = {{'u', 0, 1, 0, 3}, {'v', 1, 1, 1, 0}, {'w', 1, 0, 0, 4}};
        for (int d = 0; d < 3; d++) {
            due(x.letter(1, d, 0), due[d][0]);
            for (int what = 0; what < 4; what++) {
                due(x.door(d, what), due[d][what + 1]);
            }
        }
        due(x.letter(1, 9, 1), 'g');
        due(x.letter(1, 10, 0), NONE);
    }

    private static void keysAndPersons() {
        String box = TWO + "door d pa pb 1;box b at pb;";
        says(4, "key NAME in NAME (a PLACE or a BOX; 4 KEYS);");
        most(box, 4, 2, "key k# in pa;");
        most(box, 4, 2, "key k# in b;");
        StackKeys x = town(box + "key k in pa;key m in b;key n in pb;");
        due(x.key(0, 0), 10);
        due(x.key(1, 0), 21);
        due(x.key(2, 0), 11);
        faulty(box + "key k in ^d;", 3);
        faulty(box + "key k in pa;key m in ^k;", 3);
        says(4, "person NAME at NAME (a PLACE; 3 PERSONS);");
        most(box, 3, 3, "person n# at pb;");
        faulty(box + "person n at ^b;", 3);
        faulty(box + "person n at ^d;", 3);
        StackKeys y = town(box + "person n at pb;person m at pa;person o at pa;");
        due(y.person(0, 0), 1);
        due(y.person(1, 0), 0);
        due(y.person(2, 0), 0);
    }

    private static void having() {
        says(4, "has NAME NAME (a PERSON, a KEY that nobody has);");
        String ahead = TWO + times(4, "key k# in pa;") + times(3, "person n# at pb;");
        good(ahead + "has na ka;has na kb;has na kc;has nb kd;", 13);
        faulty(ahead + "has na ka;has nb ^ka;", 3);
        faulty(ahead + "has na ka;has na ^ka;", 3);
        faulty(ahead + "has nc kd;has na ka;has na ^kd;", 3);
        faulty(ahead + "has ^ka na;", 3);
        faulty(ahead + "has na ^nb;", 3);
        StackKeys x = town(ahead + "has nc ka;has nc kb;has nc kc;has nc kd;");
        due(x.person(2, 1), 15);
        due(x.person(0, 1), 0);
        due(x.key(3, 0), 2);
    }

    private static void shutting() {
        says(4, "shut NAME by NAME (a DOOR or BOX, a KEY in whose ROW it is not, and that has fewer than 6);");
        String ahead = TWO + times(5, "door d# pa pb 1;") + times(5, "box b# at pa;") + times(2, "key k# in pa;");
        String row = "shut da by ka;shut ba by ka;shut db by ka;shut bb by ka;shut dc by ka;";
        good(ahead + row + "shut bc by ka;", 20);
        faulty(ahead + row + "shut bc by ka;shut dd by ^ka;", 3);
        faulty(ahead + row + "shut bc by ka;shut da by ^ka;", 3);
        faulty(ahead + row + "shut dc by ^ka;", 3);
        faulty(ahead + row + "shut da by ^ka;", 3);
        faulty(ahead + "shut da by ka;shut da by ^ka;", 3);
        good(ahead + row + "shut bc by ka;shut da by kb;shut bc by kb;", 22);
        faulty(ahead + "shut ^pa by ka;", 3);
        faulty(ahead + "shut ^ka by ka;", 3);
        faulty(ahead + "shut da by ^da;", 3);
        StackKeys x = town(ahead + row + "shut bc by ka;shut bc by kb;");
        due(x.key(0, 1), 6);
        due(x.key(1, 1), 1);
        int[] doors = {0, 5, 1, 6, 2, 7};
        for (int k = 0; k < 6; k++) {
            due(x.in(0, k), doors[k]);
        }
        due(x.door(7, 5), 2);
    }

    private static void losing() {
        says(4, "lost NAME (a DOOR or BOX, once);");
        String ahead = TWO + "door d pa pb 1;box b at pa;key k in pa;";
        good(ahead + "lost d;lost b;", 7);
        faulty(ahead + "lost d;lost ^d;", 3);
        faulty(ahead + "lost d;lost b;lost ^b;", 3);
        faulty(ahead + "lost ^k;", 3);
        faulty(ahead + "lost ^pa;", 3);
        good(ahead + "lost d;shut d by k;", 7);
        good(ahead + "shut d by k;lost d;", 7);
        good(TWO + times(10, "box b# at pa;lost b#;"), 22);
        due(town(TWO + times(10, "box b# at pa;lost b#;")).has(9), 10);
    }

    private static void things() {
        says(4, "thing NAME in NAME (a PLACE or a BOX; 4 THINGS);");
        String ahead = TWO + "door d pa pb 1;box b at pb;key k in pa;";
        most(ahead, 4, 4, "thing t# in pa;");
        most(ahead, 4, 4, "thing t# in b;");
        faulty(ahead + "thing t in ^d;", 3);
        faulty(ahead + "thing t in ^k;", 3);
        faulty(ahead + "thing t in pa;thing u in ^t;", 3);
    }

    private static void wanting() {
        says(4, "wants NAME NAME (a PERSON that wants fewer than 2, a THING that it does not want; 6 WANTS);");
        String ahead = TWO + times(4, "thing t# in pa;") + times(3, "person n# at pb;");
        good(ahead + "wants na ta;wants na td;", 11);
        faulty(ahead + "wants na ta;wants na ^ta;", 3);
        faulty(ahead + "wants na td;wants na ^td;", 3);
        faulty(ahead + "wants nb td;wants na tc;wants na ^tc;", 3);
        faulty(ahead + "wants na ta;wants na tb;wants ^na tc;", 3);
        faulty(ahead + "wants na ta;wants na tb;wants ^na ta;", 3);
        faulty(ahead + "wants na ta;wants na tb;wants ^na", 3);
        good(ahead + "wants na ta;wants nb ta;wants nc ta;", 12);
        String six = "wants na ta;wants na tb;wants nb ta;wants nb tc;wants nc td;";
        good(ahead + six, 14);
        good(ahead + six + "wants nc ta;", 15);
        due(town(ahead + six).has(5), 5);
        due(town(ahead + six + "wants nc ta;").has(5), 6);
        faulty(ahead + six + "wants nc ta;^wants nc tb;", 5);
        faulty(ahead + six + "wants nc ta;^wants zz tb;", 5);
        faulty(ahead + six + "wants nc ta; ^wants", 5);
        faulty(ahead + six + "wants ^nb tb;", 3);
    }

    private static void musts() {
        says(4, "must NAME N N (a DOOR or BOX that is to be shut at the one minute and opened at the other one, 0 .. 1439, "
                + "the second not below the first; 6 MUSTS);");
        String ahead = TWO + "door d pa pb 1;box b at pb;";
        good(ahead + "must d 0 0;must b 0 1439;must d 1439 1439;must d 1438 1439;", 8);
        good(ahead + "must d 0007 0007;must d 7 8;", 6);
        faulty(ahead + "must d 7 ^6;", 4);
        faulty(ahead + "must d 1439 ^1438;", 4);
        faulty(ahead + "must d 1 ^0;", 4);
        faulty(ahead + "must d 0 ^1440;", 4);
        faulty(ahead + "must d 1439 ^1440;", 4);
        faulty(ahead + "must d ^1440 1440;", 4);
        faulty(ahead + "must d ^1440 0;", 4);
        faulty(ahead + "must d ^9999 1;", 4);
        faulty(ahead + "must d ^1440", 4);
        faulty(ahead + "must ^pa 0 0;", 3);
        faulty(ahead + "must d 7^;", 1);
        faulty(ahead + "must d 7 ^b;", 1);
        faulty(ahead + "must d ^b 7;", 1);
        faulty(ahead + "must d ^;", 1);
        most(ahead, 6, 6, "must d 0 0;");
        most(ahead + "must d 5 9;", 6, 6, "must b 0 1439;");
    }

    private static void bars() {
        says(4, "bar NAME when TEST (a DOOR; 6 BARS).");
        String ahead = TWO + "door d pa pb 1;door e pa pb 1;box b at pb;";
        most(ahead, 6, 7, "bar d when all;");
        most(ahead + "bar d when 1=1;bar d when all;", 6, 7, "bar e when not all;");
        faulty(ahead + "bar ^b when all;", 3);
        faulty(ahead + "bar ^pa when all;", 3);
        faulty(ahead + "bar ^f when all;", 3);
        faulty(ahead + "bar d ^all;", 1);
        faulty(ahead + "bar d when^;", 1);
        faulty(ahead + "bar ^when all;", 1);
    }

    private static void faultsThree() {
        says(5, "3 a NAME that is none of what is asked, of a door the second PLACE that is the first one, a KEY that somebody "
                + "has, a KEY in whose ROW the DOOR is or that has 6, a DOOR or BOX that is lost already, a PERSON that wants 2, "
                + "a THING that it wants already, at its first byte;");
        String ahead = TWO + "door d pa pb 1;box b at pa;key k in pa;person n at pa;thing t in pa;thing u in b;thing v in pb;";
        faulty(ahead + "box c at\n ^nobody ;", 3);
        faulty(ahead + "door c pa\n ^pa 1;", 3);
        faulty(ahead + "door c pa ^pa 0;", 3);
        faulty(ahead + "door c ^d d 1;", 3);
        faulty(ahead + "has n k;has n\n ^k ;", 3);
        faulty(ahead + "shut d by k;shut d by\n ^k ;", 3);
        faulty(ahead + "lost d;lost\n ^d ;", 3);
        faulty(ahead + "wants n t;wants n u;wants\n ^n v;", 3);
        faulty(ahead + "wants n t;wants n\n ^t ;", 3);
        faulty(ahead + "wants n t;wants n ^t", 3);
        faulty(ahead + "shut d by k;shut d by ^k7;", 3);
    }

    private static void faultsFour() {
        says(5, "4 a NUMBER that can't be, at its first byte;");
        String ahead = TWO + "door d pa pb 1;";
        faulty(ahead + "door e pa pb\n ^0 ;", 4);
        faulty(ahead + "door e pa pb ^100", 4);
        faulty(ahead + "door e pa pb ^1000!", 4);
        faulty(ahead + "must d \n^1440 0;", 4);
        faulty(ahead + "must d 9 \n^8;", 4);
        faulty(ahead + "must d 9 ^1440", 4);
        good(ahead + "bar d when 9999=0 or 0/0=0;", 4);
    }

    private static String bar(String test) {
        return TWO + "door d pa pb 1;bar d when " + test;
    }

    private static void faultsFive() {
        says(5, "5 one too many of a kind of STATEMENT, at its first byte;");
        faulty(times(8, "place p#;") + "\n \n^place pa;", 5);
        faulty(times(8, "place p#;") + "^place", 5);
        faulty(times(8, "place p#;") + "^placed x;", 1);
        good(times(8, "place p#;") + "box x at ph;", 9);
        says(5, "a 9th ( [ that is open at once, at itself.");
        for (int round = 0; round <= 8; round++) {
            String open = "[".repeat(8 - round) + "(".repeat(round);
            String shut = ")".repeat(round) + (round > 0 ? "=1" : "") + "]".repeat(8 - round);
            String inner = round > 0 ? "1" : "all";
            good(bar(open + inner + shut + ";"), 4);
            good(bar(open + inner + shut + " or " + open + inner + shut + " and not " + open + inner + shut + ";"), 4);
            faulty(bar(open + "^(1"), 5);
            faulty(bar(open + "^(!"), 5);
            faulty(bar(open + "^("), 5);
            faulty(bar(open + "min \n^(1,2)"), 5);
            faulty(bar(open + "max^("), 5);
            faulty(bar(open + "1+2*^(1"), 5);
            if (round == 0) {
                faulty(bar(open + "^[all"), 5);
                faulty(bar(open + "not not ^[all"), 5);
                faulty(bar(open + "all and ^["), 5);
                faulty(bar(open + "all^(1)"), 1);
            } else {
                faulty(bar(open + "^[all"), 1);
                faulty(bar(open + "1^(1)"), 1);
                faulty(bar(open + "1)+(1)^"), 1);
            }
            faulty(bar(open + "min ^1"), 1);
        }
        good(bar("(1)+(1)+(1)+(1)+(1)+(1)+(1)+(1)+(1)+(1)=10;"), 4);
        good(bar("[all]or[all]or[all]or[all]or[all]or[all]or[all]or[all]or[all];"), 4);
        good(bar("min(1,min(1,min(1,min(1,min(1,min(1,min(1,min(1,2))))))))=1;"), 4);
        faulty(bar("min(1,min(1,min(1,min(1,min(1,min(1,min(1,min(1,min^(1,2)))))))))=1;"), 5);
        faulty(bar("max(1,max(1,max(1,max(1,max(1,max(1,max(1,max(1,^(1)))))))))=1;"), 5);
        good(bar("[[[[[[[[all]]]]]]]];bar d when [[[[[[[[all]]]]]]]];"), 5);
    }

    /** The most of everything in one town. */
    private static void allAtOnce() {
        says(4, "how many STATEMENTS;");
        String text = times(8, "place p#;") + times(6, "door d# pa pb 1;") + times(4, "box b# at ph;")
                + times(4, "key k# in pa;") + times(3, "person n# at ph;") + times(4, "thing t# in pa;has nc k#;")
                + "wants na ta;wants na tb;wants nb ta;wants nb tb;wants nc tc;wants nc td;"
                + times(6, "must d# 0 1439;bar d# when all;") + times(4, "shut da by k#;shut db by k#;shut dc by k#;")
                + times(4, "lost b#;");
        int statements = text.length() - text.replace(";", "").length();
        StackKeys x = town(text);
        good(text, statements);
        int[] counts = {8, 10, 4, 3, 4, 6, 6, 6, 7, 4};
        for (int what = 0; what < 10; what++) {
            due(x.has(what), counts[what]);
        }
    }
}
