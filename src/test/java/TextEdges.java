import java.util.Arrays;

/** Promises 4 and 5 with part I of the terms: what a town's text may have, and where each fault is told. */
final class TextEdges extends Edges {
    private static final String[] OWN = {"place", "door", "box", "at", "key", "in", "person", "has", "shut", "by", "lost",
        "thing", "wants", "must", "bar", "when", "or", "and", "not", "all", "who", "spot", "keys", "closed", "min", "max"};

    /** Each kind of statement and of part, a blank between any two tokens. */
    private static final String[] EACH = ("place pa ; place pb ; door da pa pb 5 ; box ba at pa ; key ka in pa ; "
            + "person na at pa ; thing ta in ba ; has na ka ; shut da by ka ; lost ba ; wants na ta ; must da 0 1439 ; "
            + "bar da when not [ all ] or who + 1 - spot * 2 / keys % 3 < closed and min ( 1 , 2 ) > max ( 3 , ( 4 ) ) "
            + "or 1 = 2 ;").split(" ");

    /** A name of each kind, in the order of NAMED; the last one is not there. */
    private static final String KINDS = "place pa;place pb;place pc;door da pa pb 5;box ba at pa;key ka in pa;"
            + "person na at pa;thing ta in pa;";
    private static final int KINDS_COUNT = 8;
    private static final String[] NAMED = {"pc", "da", "ba", "ka", "na", "ta", "zz"};
    private static final int PLACE = 0;
    private static final int DOOR = 1;
    private static final int BOX = 2;
    private static final int KEY = 3;
    private static final int PERSON = 4;
    private static final int THING = 5;

    private TextEdges() {
    }

    static void all() {
        words();
        numbers();
        blanks();
        sideBySide();
        statements();
        endsTooSoon();
        noTownGoesOn();
        tooLong();
        wholeWords();
        ownWords();
        unlikeNames();
        firstAlong();
        towns();
        townsAgain();
        faults();
    }

    private static String joined(int from, int to) {
        return String.join(" ", Arrays.copyOfRange(EACH, from, to));
    }

    private static void words() {
        says(4, "THE TOWN is a text, with WORDS (1 to 6 letters a .. z),");
        good("place a;", 1);
        good("place z;", 1);
        good("place azazaz;", 1);
        faulty("place azazaz^a;", 1);
        faulty("place azazaz^azazazaz;", 1);
        faulty("place ^;", 1);
        faulty("place ^`;", 1);
        faulty("place ^{;", 1);
        faulty("place ^A;", 1);
        faulty("place ^Z;", 1);
        faulty("place ^_;", 1);
        faulty("place a^`;", 1);
        faulty("place a^{;", 1);
        faulty("place a^A;", 1);
        faulty("place a^-b;", 1);
        faulty("^Place a;", 1);
    }

    private static void numbers() {
        says(4, "NUMBERS (1 to 4 digits) and signs,");
        String ahead = "place a;place b;door d a b ";
        good(ahead + "9;", 3);
        good(ahead + "09;", 3);
        good(ahead + "009;", 3);
        good(ahead + "0009;", 3);
        faulty(ahead + "0000^9;", 1);
        faulty(ahead + "0009^9;", 1);
        faulty(ahead + "^;", 1);
        faulty(ahead + "^/;", 1);
        faulty(ahead + "^:;", 1);
        faulty(ahead + "1^/;", 1);
        faulty(ahead + "1^:;", 1);
        faulty(ahead + "^-1;", 1);
        faulty(ahead + "1^.;", 1);
        StackKeys x = town(ahead + "0099;door e b a 1;");
        due(x.door(0, 3), 99);
        due(x.door(1, 3), 1);
        String bar = ahead + "1;bar d when ";
        good(bar + "9999=0;", 4);
        good(bar + "0=0000;", 4);
        faulty(bar + "9999^9=0;", 1);
        faulty(bar + "0=0000^0;", 1);
    }

    private static void blanks() {
        says(4, "blanks (10, 32) between where one likes");
        good("", 0);
        good(" ", 0);
        good("\n", 0);
        good(String.join("\n", EACH), 13);
        good("\n \n" + String.join(" \n\n ", EACH) + "\n ", 13);
        good(String.join(" ", EACH).replaceAll(" ?([^a-z0-9 ]) ?", "$1"), 13);
        for (int c = 0; c < 256; c++) {
            boolean letter = c >= 'a' && c <= 'z';
            if (c == 10 || c == 32) {
                good("place" + (char) c + "a;" + (char) c, 1);
            } else if (!letter && c != ';' && (c < '0' || c > '9')) {
                faulty("place^" + (char) c + "a;", 1);
                faulty("place a;^" + (char) c, 1);
            }
        }
        faulty("^pl ace a;", 1);
        faulty("place a ^b;", 1);
        faulty("place a;place b;door d a b 1 ^2;", 1);
        good("place a;place b;door d a b 12;", 3);
    }

    private static void sideBySide() {
        says(4, "(WORDS and NUMBERS side by side need one):");
        String ahead = "place a;place b;door d a b";
        good(ahead + " 5;must d 7 8;bar d when 1=2 or 3=4 and 5=6;", 5);
        good(ahead + "\n5;must d\n7\n8;bar d when 1=2\nor 3=4\nand 5=6;", 5);
        faulty(ahead + "^5;", 1);
        faulty(ahead + "^1234;", 1);
        faulty(ahead + " 5;must d^7 8;", 1);
        faulty(ahead + " 5;must d 7^x;", 1);
        faulty(ahead + " 5;bar d when 1=2^or 3=4;", 1);
        faulty(ahead + " 5;bar d when 1=2 or^3=4;", 1);
        faulty(ahead + " 5;bar d when 1=2 and^3=4;", 1);
        faulty(ahead + " 5;bar d when 1=2^and 3=4;", 1);
        faulty(ahead + " 5;bar d when who=1^closed;", 1);
        faulty(ahead + " 5;^placec;", 1);
        faulty("place^7;", 1);
        faulty("place a^7;", 1);
        good(ahead + " 5;bar d when[who=1]or[1=who]and not[all]or(1)=1 and 1=1;", 4);
    }

    private static void statements() {
        says(4, "{ STATEMENT ; }.");
        good("place a;", 1);
        good("place a;place b;", 2);
        faulty("^;", 1);
        faulty("place a;^;", 1);
        faulty("place a;^;place b;", 1);
        faulty("place a^", 1);
        faulty("place a;place b^", 1);
        faulty("place a ^place b;", 1);
        faulty("place a^,place b;", 1);
        faulty("place a^.", 1);
        for (String word : OWN) {
            boolean begins = Arrays.asList(OWN).indexOf(word) < 15 && !Arrays.asList("at", "in", "by").contains(word);
            if (begins) {
                faulty(word + "^", 1);
                faulty(word + " ^7", 1);
            } else {
                faulty("^" + word + " a;", 1);
            }
        }
        faulty("^7 a;", 1);
        faulty("^[", 1);
        faulty("^zz a;", 1);
    }

    private static void endsTooSoon() {
        says(5, "at the text's length, if it ends too soon;");
        int whole = 0;
        for (int i = 0; i < EACH.length; i++) {
            String text = joined(0, i + 1);
            if (EACH[i].equals(";")) {
                whole++;
                good(text, whole);
            } else {
                faultyAt(text, 1, text.length());
                faultyAt(text + " ", 1, text.length() + 1);
                faultyAt(text + "\n \n", 1, text.length() + 3);
            }
        }
        due(whole, 13);
    }

    private static void noTownGoesOn() {
        says(5, "FAULTS, the first along the text: 1 the first byte with which no TOWN goes on");
        int[] bytes = {0, 9, 33, '?', 'A', 127, 128, 255};
        for (int i = 0; i <= EACH.length; i++) {
            String ahead = joined(0, i) + " ";
            for (int b : bytes) {
                faultyAt(ahead + (char) b, 1, ahead.length());
            }
            String behind = " " + joined(Math.min(i + 1, EACH.length), EACH.length);
            faultyAt(ahead + "!" + behind, 1, ahead.length());
            faultyAt(ahead + "}" + behind, 1, ahead.length());
        }
    }

    private static void tooLong() {
        says(5, "a 7th letter, a 5th digit at itself, whatever may stand there;");
        for (int i = 0; i <= EACH.length; i++) {
            String ahead = joined(0, i) + " ";
            String behind = " " + joined(Math.min(i + 1, EACH.length), EACH.length);
            faultyAt(ahead + "abcdefg" + behind, 1, ahead.length() + 6);
            faultyAt(ahead + "placess" + behind, 1, ahead.length() + 6);
            faultyAt(ahead + "closedclosed" + behind, 1, ahead.length() + 6);
            faultyAt(ahead + "12345" + behind, 1, ahead.length() + 4);
            faultyAt(ahead + "0000000" + behind, 1, ahead.length() + 4);
        }
        faulty("place a1234^5;", 1);
        faulty("place a;place b;door d a b 5abcdef^g;", 1);
        faulty("place a^1234;", 1);
        faulty("place abcdef^gabcdefg;", 1);
    }

    private static void wholeWords() {
        says(5, "(WORDS, NUMBERS whole, at their first byte;");
        for (int i = 0; i <= EACH.length; i++) {
            String sign = i == EACH.length ? "" : EACH[i];
            String ahead = joined(0, i) + " ";
            String behind = " " + joined(Math.min(i + 1, EACH.length), EACH.length);
            boolean opens = sign.equals("[") || sign.equals("(");
            if (!sign.matches("[a-z0-9]+")) {
                faultyAt(ahead + "z" + behind, 1, ahead.length());
                faultyAt(ahead + "zzzzzz" + behind, 1, ahead.length());
            }
            if (!sign.matches("[a-z0-9]+") && !opens) {
                faultyAt(ahead + "closed" + behind, 1, ahead.length());
                faultyAt(ahead + "1" + behind, 1, ahead.length());
                faultyAt(ahead + "1234" + behind, 1, ahead.length());
            }
            if (sign.matches("[a-z]+") && !sign.equals("or") && !sign.equals("and")) {
                faultyAt(ahead + ";" + behind, 1, ahead.length());
                faultyAt(ahead + ")" + behind, 1, ahead.length());
                faultyAt(ahead + "]" + behind, 1, ahead.length());
                faultyAt(ahead + "+" + behind, 1, ahead.length());
            }
        }
        faulty("^placx a;", 1);
        faulty("^plac a;", 1);
        faulty("^places a;", 1);
        faulty("place a;box b ^in a;", 1);
        faulty("place a;box b ^ata a;", 1);
        faulty("place a;box b ^a a;", 1);
    }

    private static void ownWords() {
        says(5, "OWN WORDS, which no NAME is: place, door, box, at, key, in, person, has, shut, by, lost, thing, wants, must, "
                + "bar, when, or, and, not, all, who, spot, keys, closed, min, max.");
        due(OWN.length, 26);
        for (String word : OWN) {
            faulty("place ^" + word + ";", 1);
            if (!word.equals("keys")) {
                good("place " + word.substring(0, word.length() - 1) + ";", 1);
            }
            if (word.length() < 6) {
                good("place " + word + "z;", 1);
                good("place z" + word + ";", 1);
                good("place a" + word + ";", 1);
            }
        }
        says(5, "an OWN WORD where a NAME must be);");
        given("place ", ";");
        given("door ", " pa pb 1;");
        given("box ", " at pa;");
        given("key ", " in pa;");
        given("person ", " at pa;");
        given("thing ", " in pa;");
        theirWord("box zz ", "at", " pa;");
        theirWord("key zz ", "in", " pa;");
        theirWord("person zz ", "at", " pa;");
        theirWord("thing zz ", "in", " pa;");
        theirWord("shut da ", "by", " ka;");
        theirWord("bar da ", "when", " all;");
        asked("door zz ", " pa 1;", PLACE);
        asked("door zz pa ", " 1;", PLACE);
        asked("box zz at ", ";", PLACE);
        asked("key yy in ", ";", PLACE, BOX);
        asked("person yy at ", ";", PLACE);
        asked("has ", " ka;", PERSON);
        asked("has na ", ";", KEY);
        asked("shut ", " by ka;", DOOR, BOX);
        asked("shut da by ", ";", KEY);
        asked("lost ", ";", DOOR, BOX);
        asked("thing yy in ", ";", PLACE, BOX);
        asked("wants ", " ta;", PERSON);
        asked("wants na ", ";", THING);
        asked("must ", " 1 2;", DOOR, BOX);
        asked("bar ", " when all;", DOOR);
    }

    /** Neither an own word nor a number nor a sign can stand for a name; and the text can end there too soon. */
    private static void nameOnly(String ahead, String behind) {
        int place = KINDS.length() + ahead.length();
        for (String word : OWN) {
            faultyAt(KINDS + ahead + word + behind, 1, place);
        }
        for (String other : new String[] {"7", "1234", "(", "[", ";", "+"}) {
            faultyAt(KINDS + ahead + other + behind, 1, place);
        }
        faultyAt(KINDS + ahead, 1, place);
        faultyAt(KINDS + ahead + "abcdefg" + behind, 1, place + 6);
    }

    /** Where a name is to be given: fault 2 for those that are there. */
    private static void given(String ahead, String behind) {
        nameOnly(ahead, behind);
        int place = KINDS.length() + ahead.length();
        for (int kind = 0; kind < NAMED.length - 1; kind++) {
            faultyAt(KINDS + ahead + NAMED[kind] + behind, 2, place);
            good(KINDS + ahead + NAMED[kind] + "x" + behind, KINDS_COUNT + 1);
            good(KINDS + ahead + NAMED[kind].substring(0, 1) + behind, KINDS_COUNT + 1);
        }
        good(KINDS + ahead + "zzzzzz" + behind, KINDS_COUNT + 1);
    }

    /** Where a name is asked: fault 3 for those that are none of the kinds. */
    private static void asked(String ahead, String behind, int... kinds) {
        nameOnly(ahead, behind);
        int place = KINDS.length() + ahead.length();
        for (int kind = 0; kind < NAMED.length; kind++) {
            int one = kind;
            if (Arrays.stream(kinds).anyMatch(k -> k == one)) {
                good(KINDS + ahead + NAMED[kind] + behind, KINDS_COUNT + 1);
                faultyAt(KINDS + ahead + NAMED[kind] + "x" + behind, 3, place);
            } else {
                faultyAt(KINDS + ahead + NAMED[kind] + behind, 3, place);
            }
        }
    }

    private static void theirWord(String ahead, String own, String behind) {
        int place = KINDS.length() + ahead.length();
        good(KINDS + ahead + own + behind, KINDS_COUNT + 1);
        for (String word : OWN) {
            if (!word.equals(own)) {
                faultyAt(KINDS + ahead + word + behind, 1, place);
            }
        }
        for (String other : new String[] {"zz", "pa", own + "x", own.substring(1), "7", ";", "("}) {
            faultyAt(KINDS + ahead + other + behind, 1, place);
        }
    }

    private static void unlikeNames() {
        says(5, "NAMES are unlike ones, each told ahead of where it is asked.");
        good("place a;place b;place aa;place ab;place ba;place aaaaaa;place aaaaab;", 7);
        good("place a;box b at a;", 2);
        faulty("box b at ^a;place a;", 3);
        faulty("place a;box b at a;has ^p k;person p at a;key k in b;", 3);
        faulty("place a;box b at ^b;", 3);
        faulty("place a;key k in ^k;", 3);
        faulty("place a;person p at ^p;", 3);
        faulty("place a;thing t in ^t;", 3);
        faulty("place a;door d ^d a 1;", 3);
        faulty("place a;place b;door d a ^d 1;", 3);
        says(5, "2 a NAME to be given that is there already, at its first byte;");
        faulty("place a;place ^a;", 2);
        faulty("place a;place\n\n ^a;", 2);
        faulty("place abcdef;place ^abcdef;", 2);
        good("place abcdef;place abcdee;place abcde;", 3);
        faulty("place a;place b;door ^a a b 1;", 2);
        faulty("place a;box ^a at a;", 2);
        faulty("place a;key ^a in a;", 2);
        faulty("place a;person ^a at a;", 2);
        faulty("place a;thing ^a in a;", 2);
    }

    private static void firstAlong() {
        says(5, "FAULTS, the first along the text:");
        faulty("place a;place ^a;!", 2);
        faulty("place a;place^!a;place a;", 1);
        faulty("place a;place b;door d a ^a 0;", 3);
        faulty("place a;place b;door d a b ^0;place a;", 4);
        faulty("place a;place b;door d a ^c 100;", 3);
        faulty("place a;place b;door ^a a a 100;", 2);
        faulty("place a;place b;door ^at a a 100;", 1);
        faulty("place a;box b at a;must b ^1440 7;", 4);
        faulty("place a;box b at a;must ^c 1440 7;", 3);
        faulty("place a;place ^a7;", 2);
        faulty("place a;place b^7;", 1);
        faulty("place ^at7;", 1);
        faulty("place a;box b at ^c7;", 3);
        faulty("place a;place b;door d a b ^0x;", 4);
        faulty("place a;place b;door d a b 1^x;", 1);
        faulty("place a;place ^a", 2);
        faulty("place a;box b at ^c", 3);
        faulty("place a;place b;door d a b ^0", 4);
    }

    private static void towns() {
        says(4, "The tape (it goes) is THE TOWN: how many STATEMENTS;");
        StackKeys x = new StackKeys();
        due(x.town(), 0);
        due(tell(x, String.join(" ", EACH)), 13);
        due(x.end(1), false);
        due(x.end(0), true);
        int[] counts = {2, 2, 1, 1, 1, 1, 1, 1, 2, 1};
        for (int what = 0; what < 10; what++) {
            due(x.has(what), counts[what]);
        }
        feed(x, "place a;");
        due(x.town(), 1);
        due(x.has(0), 1);
        due(x.has(1), 0);
        due(x.town(), 0);
        due(x.has(0), 0);
        says(4, "NONE with a FAULT (all stays).");
        StackKeys y = town("place a;place b;door d a b 7;box c at a;key k in c;person p at a;has p k;shut d by k;lost c;");
        due(y.trial(1, true), 1);
        due(y.image(), 5);
        String before = standing(y);
        for (String bad : new String[] {"place", "place z;place z;", "place z;box y at x;", "place z;place y;door x z y 0;",
            "person p at a;", "!"}) {
            due(tell(y, bad), NONE);
            due(y.end(1), false);
            due(standing(y), before);
        }
        due(y.has(0), 2);
        due(y.has(1), 2);
        due(y.letter(0, 0, 0), 'a');
        due(y.door(0, 3), 7);
        due(y.door(1, 6), 1);
        due(y.octet(1), 0);
        due(y.octet(5), NONE);
        due(y.fits(NONE), 1);
        due(y.fits(0), 1);
        due(y.status(1), 6);
        says(4, "Without one no KEY was FOUND; REFUSALS stay.");
        due(y.unsay(), 0);
        due(y.trial(1, true), 1);
        due(y.trial(0, true), 0);
        due(tell(y, "place a;box b at a;box c at a;lost b;lost c;"), 5);
        due(y.fits(NONE), 5);
        due(y.unsay(), NONE);
        due(y.status(0), 6);
        due(y.status(1), 6);
        due(y.status(4), 1);
        due(tell(y, ""), 0);
        due(y.status(0), 6);
        due(y.status(1), 6);
        due(y.status(4), 1);
    }

    /** A town is as it is told, whatever towns and faults were told to the object before. */
    private static void townsAgain() {
        says(4, "The tape (it goes) is THE TOWN: how many STATEMENTS;");
        String rich = "place a;place b;place c;door ab a b 1;box x at a;door bc b c 1;key k in a;person p at a;person q at c;has p k;"
                + "shut ab by k;lost x;thing t in b;thing u in x;wants p t;wants p u;must x 0 9;must ab 5 12;"
                + "bar ab when [[[[[[[[all]]]]]]]];";
        String plain = "place a;place b;place c;door bc b c 1;box x at c;key k in a;person p at a;person q at b;thing t in c;"
                + "thing u in c;wants p t;wants p u;wants q u;bar bc when [[[[[[[[not all]]]]]]]];";
        StackKeys x = new StackKeys();
        for (int i = 0; i < 3; i++) {
            due(tell(x, rich), 19);
            due(x.reach(0, 1), NONE);
            due(x.errands(0), NONE);
            due(x.fewest(NONE), 2);
            due(tell(x, "place a;place b;door d a b 1;bar d when [[[[[[[[(1"), NONE);
            due(tell(x, plain), 14);
            due(x.key(0, 1), 0);
            due(x.key(0, 0), 10);
            due(x.has(8), 0);
            due(x.has(9), 0);
            due(x.cross(0), NONE);
            due(x.fewest(NONE), 0);
            due(x.reach(0, 1), NONE);
            due(x.reach(0, 2), NONE);
            due(x.locked(), 0);
            due(x.errands(0), NONE);
            due(x.errands(1), 1);
            due(x.go(1, 0), 2);
            due(x.fits(NONE), 1);
        }
        StackKeys y = new StackKeys();
        String bar = "place a;place b;door d a b 1;person p at a;bar d when 1" + "+1".repeat(700) + "=701;";
        for (int i = 0; i < 3; i++) {
            due(tell(y, bar), 5);
            due(y.go(0, 0), NONE);
        }
        StackKeys z = new StackKeys();
        due(tell(z, "place a"), NONE);
        due(tell(z, "       place b;"), 1);
        due(tell(z, "place a;place a"), NONE);
        due(tell(z, " ".repeat(15) + "place b;"), 1);
    }

    private static void faults() {
        says(5, "Of the latest town(): its FAULT (what 0; 0 without, and ahead of any), its place (1; NONE without).");
        StackKeys x = new StackKeys();
        due(x.fault(0), 0);
        due(x.fault(1), NONE);
        tell(x, "!");
        due(x.fault(0), 1);
        due(x.fault(1), 0);
        tell(x, "place a;place a;");
        due(x.fault(0), 2);
        due(x.fault(1), 14);
        x.town();
        due(x.fault(0), 0);
        due(x.fault(1), NONE);
        tell(x, "place a;place b;door d a b 0;");
        due(x.fault(0), 4);
        due(x.fault(1), 27);
        x.row();
        x.on();
        due(x.fault(0), 4);
        tell(x, "place a;");
        due(x.fault(0), 0);
        due(x.fault(1), NONE);
        says(5, "NONE for another what.");
        due(x.fault(2), NONE);
        due(x.fault(-1), NONE);
        due(x.fault(LOW), NONE);
        due(x.fault(HIGH), NONE);
        tell(x, "!");
        due(x.fault(2), NONE);
        due(x.fault(-1), NONE);
    }
}
