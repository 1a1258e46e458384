/** Each promise of the document by itself: ordinary calls, the edges that it names, wrong inputs. */
public final class PromisesTest extends Bench {
    /** Places inn 0, lane 1, mill 2, yard 3; doors oak 0, ash 1, boxes tin 2, urn 3, door fir 4; keys kay 0, lob 1, moe 2. */
    private static final String BASE = "place inn;place lane;place mill;place yard;"
            + "door oak inn lane 4;door ash lane mill 9;box tin at inn;box urn at mill;door fir mill yard 7;"
            + "key kay in inn;key lob in tin;key moe in urn;person pat at inn;person quin at mill;has pat kay;"
            + "shut ash by kay;shut oak by kay;shut urn by lob;thing cup in urn;thing hat in yard;"
            + "wants pat hat;wants quin hat;wants quin cup;must oak 10 90;must ash 30 60;must fir 50 99;"
            + "bar fir when who=0 and closed>2;";
    private static final int BASE_STATEMENTS = 27;

    private static StackKeys base() {
        StackKeys x = new StackKeys();
        due(tell(x, BASE), BASE_STATEMENTS);
        return x;
    }

    private static StackKeys with(String more) {
        StackKeys x = new StackKeys();
        int n = tell(x, BASE + more);
        if (n == NONE) {
            due(NONE, 0);
            System.out.println("fault " + x.fault(0) + " at " + (x.fault(1) - BASE.length()) + " in " + more);
        }
        return x;
    }

    private static void faultyBase(String marked, int fault) {
        faulty(BASE + marked, fault);
    }

    private static void newObject() {
        StackKeys x = new StackKeys();
        for (int what = 0; what < 10; what++) {
            due(x.has(what), 0);
        }
        due(x.key(0, 0), NONE);
        due(x.person(0, 0), NONE);
        due(x.locked(), 0);
        due(x.fits(NONE), 1);
        due(x.fewest(NONE), 0);
        due(x.cross(0), NONE);
        due(x.go(0, 0), NONE);
        due(x.row(), NONE);
        due(StackKeys.NONE, -1);
    }

    private static void feeding() {
        StackKeys x = new StackKeys();
        for (int i = 1; i <= 80; i++) {
            due(x.feed(0x706c6163, 0x6520613b, 0x20202020, 0x20202020, 0x20202020), 20 * i);
        }
        due(x.feed(0, 0, 0, 0, 0), NONE);
        due(x.status(0), 1);
        due(x.end(1581), true);
        due(x.feed(0, 0, 0, 0, 0), NONE);
        due(x.end(1580), true);
        due(x.feed(LOW, HIGH, -1, 0, 1), 1600);
        due(x.end(20), true);
        due(x.town(), 1);
        due(x.letter(0, 0, 0), 'a');
        due(x.feed(0x01020304, 0x05060708, 0x090a0b0c, 0x0d0e0f10, 0x11121314), 20);
        due(x.town(), NONE);
        due(x.fault(1), 0);
        feed(x, "place b;");
        due(x.feed(0x706c6163, 0x6520633b, 0x20202020, 0x20202020, 0x20202020), 28);
        due(x.town(), 2);
    }

    private static void ending() {
        StackKeys x = new StackKeys();
        due(x.end(0), true);
        due(x.end(1), false);
        due(x.end(-1), false);
        due(x.end(HIGH), false);
        due(x.end(LOW), false);
        x.feed(0x706c6163, 0x6520613b, 0x706c6163, 0x6520623b, 0x20202020);
        due(x.end(21), false);
        due(x.end(20), true);
        due(x.end(16), true);
        due(x.end(17), false);
        due(x.end(8), true);
        due(x.town(), 1);
        due(x.status(0), 6);
    }

    private static void towns() {
        StackKeys x = base();
        due(x.town(), 0);
        due(x.has(0), 0);
        due(tell(x, "\n \n"), 0);
        due(tell(x, " place\n\nab ;place cd;door d ab cd 007;bar d when[all];"), 4);
        due(x.door(0, 3), 7);
        due(tell(x, "place a;place a;"), NONE);
        due(x.has(0), 2);
        due(x.end(1), false);
        due(tell(x, "place a;box b at a;lost b;"), 3);
        due(x.trial(0, true), 1);
        due(tell(x, "place"), NONE);
        due(x.unsay(), 0);
        due(x.trial(0, true), 1);
        due(tell(x, "place a;box b at a;lost b;"), 3);
        due(x.unsay(), NONE);
        due(x.status(1), 2);
        due(x.status(0), 1);
        due(x.status(4), 1);
    }

    private static void faultsOfForm() {
        StackKeys x = new StackKeys();
        due(x.fault(0), 0);
        due(x.fault(1), NONE);
        due(x.fault(2), NONE);
        due(x.fault(-1), NONE);
        due(x.fault(LOW), NONE);
        due(tell(x, "place a"), NONE);
        due(x.fault(0), 1);
        due(x.fault(1), 7);
        due(tell(x, "place a;"), 1);
        due(x.fault(0), 0);
        due(x.fault(1), NONE);
        faulty("place a  ^", 1);
        faulty("^a;", 1);
        faulty("^;", 1);
        faulty("^7;", 1);
        faulty("place a;^;", 1);
        faulty("place a^,", 1);
        faulty("place ^7;", 1);
        faulty("place ^at;", 1);
        faulty("place ^place;", 1);
        faulty("place a;key k in ^7;", 1);
        faulty("place a;key k in ^in;", 1);
        faulty("place ^max;", 1);
        faulty("place ^A;", 1);
        faulty("place^\ta;", 1);
        faulty("place abcdef^g;", 1);
        faulty("placea^b;", 1);
        faulty("1234^5;", 1);
        faulty("place a;place b;door d a b abcdef^gh;", 1);
        faulty("place 1234^5;", 1);
        faulty("place a^1;", 1);
        faulty("place a;place b;door d a b^5;", 1);
        faulty("place a;place b;door d a b 5^x;", 1);
        faulty("place a;place b;door d a b1234^5;", 1);
        faulty("place a^" + (char) 200 + ";", 1);
        faulty("place a^" + (char) 0 + ";", 1);
        faulty("place a;box b ^in a;", 1);
        faulty("place a;key k ^at a;", 1);
        faulty("place a;place b;door d a b ^x;", 1);
        faultyBase("shut oak ^at lob;", 1);
        faultyBase("bar oak ^all;", 1);
        faultyBase("bar oak when ^;", 1);
        faultyBase("bar oak when 1<2^<3;", 1);
        faultyBase("bar oak when 1^;", 1);
        faultyBase("bar oak when [1^]<2;", 1);
        faultyBase("bar oak when (1^<2)=1;", 1);
        faultyBase("bar oak when min(1^)<2;", 1);
        faultyBase("bar oak when max ^1,2)<2;", 1);
        faultyBase("bar oak when not ^or all;", 1);
        faultyBase("bar oak when all ^all;", 1);
        faultyBase("bar oak when 1+^+2=3;", 1);
        faultyBase("bar oak when ^-1<3;", 1);
        faultyBase("bar oak when 1=2^or all;", 1);
    }

    private static void faultsOfNames() {
        faulty("place a;place ^a;", 2);
        faultyBase("place ^oak;", 2);
        faultyBase("key ^pat in inn;", 2);
        faultyBase("person ^cup at inn;", 2);
        faultyBase("thing ^moe in inn;", 2);
        faultyBase("box ^inn at inn;", 2);
        faulty("door d ^a", 3);
        faulty("place a;door d a ^a 5;", 3);
        faulty("place a;box b at ^b;", 3);
        faulty("place a;key k in ^k;", 3);
        faultyBase("key new in ^oak;", 3);
        faultyBase("thing new in ^oak;", 3);
        faultyBase("person new at ^tin;", 3);
        faultyBase("has ^kay lob;", 3);
        faultyBase("has pat ^oak;", 3);
        faultyBase("has quin ^kay;", 3);
        faultyBase("has pat ^kay;", 3);
        faultyBase("shut ^inn by lob;", 3);
        faultyBase("shut oak by ^kay;", 3);
        faultyBase("shut oak by ^pat;", 3);
        faultyBase("lost ^kay;", 3);
        faultyBase("lost tin;lost ^tin;", 3);
        faultyBase("wants ^quin hat;", 3);
        faultyBase("wants pat ^hat;", 3);
        faultyBase("wants pat ^oak;", 3);
        faultyBase("must ^kay 1 2;", 3);
        faultyBase("bar ^tin when all;", 3);
        faultyBase("bar ^inn when all;", 3);
        faultyBase("door a inn lane 1;door b inn lane 1;shut a by kay;shut b by kay;shut tin by kay;shut urn by kay;"
                + "shut fir by ^kay;", 3);
        faultyBase("place ^inn1;", 2);
        faultyBase("place inner^7;", 1);
    }

    private static void faultsOfNumbers() {
        faulty("place a;place b;door d a b ^0;", 4);
        faulty("place a;place b;door d a b ^100;", 4);
        due(town("place a;place b;door d a b 99;door e a b 1;").has(1), 2);
        faultyBase("must oak ^1440 1441;", 4);
        faultyBase("must oak 7 ^6;", 4);
        faultyBase("must oak 1439 ^1440;", 4);
        due(with("must oak 1439 1439;must tin 0 0;").has(6), 5);
        faultyBase("must oak 7 1234^5;", 1);
        String places = "place a;place b;place c;place d;place e;place f;place g;place h;";
        faulty(places + "^place i;", 5);
        faulty(places + "^place a;", 5);
        String doors = "door da a b 1;door db a b 1;door dc a b 1;door dd a b 1;door de a b 1;box df at a;box dg at a;"
                + "box dh at a;box di at a;box dj at a;";
        due(town(places + doors).has(1), 10);
        faulty(places + doors + "^door dk a b 1;", 5);
        faulty(places + doors + "^box dk at a;", 5);
        faultyBase("key a in inn;^key b in inn;", 5);
        faultyBase("person a at inn;^person b at inn;", 5);
        faultyBase("thing a in inn;thing b in inn;^thing c in inn;", 5);
        faultyBase("person a at inn;wants pat cup;wants a cup;wants a hat;^wants a hat;", 5);
        faultyBase("must oak 1 1;must oak 1 1;must oak 1 1;^must oak 1 1;", 5);
        faultyBase("bar oak when all;bar oak when all;bar oak when all;bar oak when all;bar oak when all;^bar oak when all;", 5);
        due(with("bar oak when [[[[[[[[all]]]]]]]] or ((((((((1))))))))=1;").has(7), 2);
        faultyBase("bar oak when [[[[[[[[^[all", 5);
        faultyBase("bar oak when [[[[(((min(1^", 1);
        faultyBase("bar oak when [[[[((((min^(1", 5);
        faultyBase("bar oak when [[[[((((1+^(1", 5);
        due(with("bar oak when [[[[((((1))))=1]]]] and [[[[[[[[all]]]]]]]];").has(7), 2);
    }

    /** Whether the bar holds for pat, at inn, with one key, three shut. */
    private static void bar(String test, boolean holds) {
        StackKeys x = with("door gap inn yard 1;bar gap when " + test + ";");
        due(x.go(0, 5), holds ? NONE : 3);
    }

    private static void bars() {
        bar("all", true);
        bar("not all", false);
        bar("not not all", true);
        bar("not all or all", true);
        bar("all or all and not all", true);
        bar("[all or all]and not all", false);
        bar("not all and not all", false);
        bar("not[all and not all]", true);
        bar("who=0", true);
        bar("spot=0", true);
        bar("keys=1", true);
        bar("closed=3", true);
        bar("closed>2", true);
        bar("closed>3", false);
        bar("closed<3", false);
        bar("closed<4", true);
        bar("10-3-2=5", true);
        bar("2+3*4=14", true);
        bar("(2+3)*4=20", true);
        bar("100/7/2=7", true);
        bar("100%7*3=6", true);
        bar("(0-7)/2=0-4", true);
        bar("(0-7)%2=1", true);
        bar("7/(0-2)=0-4", true);
        bar("7%(0-2)=0-1", true);
        bar("7/0=0", true);
        bar("7%0=0", true);
        bar("9999*9999=1000*1000", true);
        bar("1000*1000+5=1000*1000", true);
        bar("9999*9999-1=999*1001", true);
        bar("9999*9999-1<1000*1000", true);
        bar("0-9999*9999-1=0-1000*1000", true);
        bar("(0-9999)*9999=0-1000*1000", true);
        bar("min(3,2)=2", true);
        bar("max(3,2)=3", true);
        bar("min(max(1,closed),who+2)*2=4", true);
        bar("0000=0", true);
    }

    private static void counts() {
        StackKeys x = with("lost tin;");
        int[] all = {4, 5, 3, 2, 2, 3, 3, 1, 4, 1};
        for (int what = 0; what < 10; what++) {
            due(x.has(what), all[what]);
        }
        due(x.has(10), NONE);
        due(x.has(-1), NONE);
        due(x.has(LOW), NONE);
        x.snap(0);
        due(x.has(9), 3);
        due(x.has(8), 4);
    }

    private static void letters() {
        StackKeys x = with("place abcxyz;");
        due(x.letter(0, 0, 0), 'i');
        due(x.letter(0, 0, 2), 'n');
        due(x.letter(0, 0, 3), NONE);
        due(x.letter(0, 4, 5), 'z');
        due(x.letter(0, 4, 0), 'a');
        due(x.letter(0, 4, 6), NONE);
        due(x.letter(1, 3, 0), 'u');
        due(x.letter(2, 1, 1), 'o');
        due(x.letter(3, 1, 3), 'n');
        due(x.letter(4, 0, 2), 'p');
        due(x.letter(4, 2, 0), NONE);
        StackKeys z = town("place zzzzzz;place za;place az;");
        due(z.letter(0, 0, 0), 'z');
        due(z.letter(0, 0, 5), 'z');
        due(z.letter(0, 2, 1), 'z');
        due(x.letter(5, 0, 0), NONE);
        due(x.letter(-1, 0, 0), NONE);
        due(x.letter(0, -1, 0), NONE);
        due(x.letter(0, 0, -1), NONE);
        due(x.letter(HIGH, HIGH, HIGH), NONE);
        due(x.letter(0, 0, LOW), NONE);
    }

    private static void doors() {
        StackKeys x = with("lost urn;shut oak by moe;");
        int[][] all = {{0, 1, 0, 4, 1, 2, 0, 0}, {1, 2, 0, 9, 1, 1, 0, 0}, {0, 0, 1, 0, 0, 0, 0, 0}, {2, 2, 1, 0, 1, 1, 1, 1},
            {2, 3, 0, 7, 0, 0, 0, 0}};
        for (int d = 0; d < 5; d++) {
            for (int what = 0; what < 8; what++) {
                due(x.door(d, what), all[d][what]);
            }
        }
        due(x.door(0, 8), NONE);
        due(x.door(0, -1), NONE);
        due(x.door(5, 0), NONE);
        due(x.door(-1, 0), NONE);
        due(x.door(HIGH, LOW), NONE);
        x.snap(2);
        due(x.door(0, 7), 1);
        due(x.door(1, 7), 0);
    }

    private static void keys() {
        StackKeys x = base();
        due(x.key(0, 0), 0);
        due(x.key(0, 1), 2);
        due(x.key(0, 2), 0);
        due(x.key(1, 0), 22);
        due(x.key(2, 0), 23);
        due(x.key(2, 1), 0);
        due(x.key(2, 2), NONE);
        due(x.key(0, 3), NONE);
        due(x.key(0, -1), NONE);
        due(x.key(3, 0), NONE);
        due(x.key(-1, 0), NONE);
        due(x.key(LOW, HIGH), NONE);
        x.snap(0);
        due(x.key(0, 0), 40);
        due(x.key(0, 1), 2);
        due(x.key(0, 2), 0);
        due(with("key new in yard;").key(3, 0), 13);
    }

    private static void rows() {
        StackKeys x = base();
        due(x.in(0, 0), 1);
        due(x.in(0, 1), 0);
        due(x.in(0, 2), NONE);
        due(x.in(0, -1), NONE);
        due(x.in(2, 0), NONE);
        due(x.in(3, 0), NONE);
        due(x.in(-1, 0), NONE);
        due(x.in(HIGH, LOW), NONE);
        x.open(0, 0);
        due(x.in(0, 1), NONE);
        due(x.in(0, 0), 1);
    }

    private static void persons() {
        StackKeys x = base();
        due(x.person(0, 0), 0);
        due(x.person(0, 1), 1);
        due(x.person(0, 2), 4);
        due(x.person(0, 3), 15);
        due(x.person(1, 0), 2);
        due(x.person(1, 1), 0);
        due(x.person(1, 2), 2);
        due(x.person(1, 3), 12);
        due(x.person(0, 4), NONE);
        due(x.person(0, -1), NONE);
        due(x.person(2, 0), NONE);
        due(x.person(-1, 3), NONE);
        due(x.person(HIGH, 2), NONE);
        due(x.take(0, 1), true);
        due(x.person(0, 1), 3);
        StackKeys y = with("shut tin by moe;");
        due(y.person(0, 3), 15);
        due(with("shut tin by moe;lost tin;shut fir by moe;").person(0, 3), 7);
    }

    private static void going() {
        StackKeys x = base();
        due(x.go(0, 0), NONE);
        due(x.go(1, 4), 3);
        due(x.go(1, 4), 2);
        due(x.go(1, 0), NONE);
        due(x.go(0, 2), NONE);
        due(x.go(2, 0), NONE);
        due(x.go(0, 5), NONE);
        due(x.go(-1, 0), NONE);
        due(x.go(0, -1), NONE);
        due(x.go(HIGH, LOW), NONE);
        x.open(0, 0);
        due(x.go(0, 0), 1);
        x.shut(0, 0, 0);
        due(x.go(0, 0), NONE);
        x.open(0, 0);
        x.open(0, 0);
        due(x.go(0, 1), 2);
        due(x.go(0, 4), 3);
        x.go(0, 4);
        due(x.shut(0, 0, 1), 1);
        due(x.go(0, 4), 3);
        due(x.status(2), 9);
        StackKeys y = with("bar fir when spot=2;bar fir when keys>3;");
        due(y.go(1, 4), NONE);
        StackKeys z = with("bar fir when spot=3;");
        due(z.go(1, 4), 3);
        due(z.go(1, 4), NONE);
    }

    private static void opening() {
        StackKeys x = base();
        due(x.open(1, 0), NONE);
        due(x.open(0, 1), NONE);
        due(x.open(0, 0), 0);
        due(x.open(0, 0), NONE);
        due(x.go(0, 0), 1);
        due(x.open(0, 0), 1);
        due(x.open(0, 0), NONE);
        due(x.key(0, 1), 0);
        due(x.open(0, 3), NONE);
        due(x.open(2, 0), NONE);
        due(x.open(-1, -1), NONE);
        due(x.open(LOW, HIGH), NONE);
        due(x.status(2), 8);
        StackKeys y = with("has pat moe;shut oak by moe;");
        due(y.open(0, 0), 0);
        due(y.door(0, 4), 1);
        due(y.go(0, 0), NONE);
        due(y.open(0, 2), 0);
        due(y.go(0, 0), 1);
        StackKeys z = with("shut urn by kay;has quin lob;");
        due(z.open(0, 0), NONE);
        due(z.open(1, 1), 3);
        due(z.door(3, 4), 1);
    }

    private static void shutting() {
        StackKeys x = with("door g inn lane 1;door h inn lane 1;box i at inn;door j inn yard 2;");
        due(x.shut(0, 0, 0), NONE);
        due(x.shut(0, 0, 4), NONE);
        due(x.shut(0, 1, 2), NONE);
        due(x.shut(1, 0, 3), NONE);
        due(x.shut(0, 0, 2), 3);
        due(x.key(0, 2), 2);
        due(x.shut(0, 0, 2), NONE);
        due(x.shut(0, 0, 5), 4);
        due(x.shut(0, 0, 6), 5);
        due(x.shut(0, 0, 7), 6);
        due(x.shut(0, 0, 8), NONE);
        due(x.door(7, 4), 1);
        due(x.shut(0, 0, 9), NONE);
        due(x.shut(0, -1, 0), NONE);
        due(x.shut(0, 0, -1), NONE);
        due(x.shut(3, 0, 0), NONE);
        due(x.shut(LOW, HIGH, LOW), NONE);
        due(x.status(2), 11);
        StackKeys y = with("has pat moe;lost tin;");
        due(y.shut(0, 2, 0), 1);
        due(y.door(0, 5), 2);
        due(y.shut(0, 2, 2), 2);
    }

    private static void lending() {
        StackKeys x = with("person rue at inn;");
        due(x.lend(0, 0, 1), false);
        due(x.lend(0, 0, 0), false);
        due(x.lend(0, 1, 2), false);
        due(x.lend(2, 0, 0), false);
        due(x.lend(0, 0, 3), false);
        due(x.lend(0, 0, -1), false);
        due(x.lend(0, 3, 2), false);
        due(x.lend(HIGH, LOW, HIGH), false);
        due(x.status(3), 8);
        due(x.lend(0, 0, 2), true);
        due(x.key(0, 0), 2);
        due(x.key(0, 1), 2);
        due(x.open(2, 0), 0);
        due(x.lend(2, 0, 0), true);
        due(x.status(3), 8);
    }

    private static void taking() {
        StackKeys x = with("key new in inn;");
        due(x.take(1, 3), false);
        due(x.take(0, 3), true);
        due(x.take(0, 3), false);
        due(x.take(0, 1), true);
        due(x.take(1, 2), false);
        due(x.take(1, 0), false);
        due(x.take(0, 4), false);
        due(x.take(0, -1), false);
        due(x.take(2, 1), false);
        due(x.take(LOW, HIGH), false);
        due(x.key(1, 0), 0);
        due(x.status(3), 8);
        x.snap(0);
        due(x.take(0, 0), false);
    }

    private static void laying() {
        StackKeys x = base();
        due(x.lay(0, 0, 3), false);
        due(x.lay(0, 0, 0), false);
        due(x.lay(0, 0, 5), false);
        due(x.lay(0, 0, -2), false);
        due(x.lay(0, 1, NONE), false);
        due(x.lay(1, 0, NONE), false);
        due(x.lay(0, 3, NONE), false);
        due(x.lay(LOW, 0, LOW), false);
        due(x.status(3), 8);
        due(x.lay(0, 0, NONE), true);
        due(x.key(0, 0), 10);
        due(x.take(0, 0), true);
        due(x.lay(0, 0, 2), true);
        due(x.key(0, 0), 22);
        due(x.take(0, 0), true);
        x.open(0, 0);
        x.go(0, 0);
        due(x.lay(0, 0, NONE), true);
        due(x.key(0, 0), 11);
        due(x.take(0, 0), true);
        x.go(0, 0);
        x.shut(0, 0, 2);
        due(x.lay(0, 0, 2), false);
        due(with("lost tin;").lay(0, 0, 2), false);
    }

    private static void snapping() {
        StackKeys x = base();
        due(x.snap(0), 2);
        due(x.snap(0), NONE);
        due(x.snap(3), NONE);
        due(x.snap(-1), NONE);
        due(x.snap(LOW), NONE);
        due(x.snap(2), 0);
        due(x.status(3), 4);
        due(x.open(0, 0), NONE);
        due(x.lend(0, 0, 1), false);
        due(x.person(0, 1), 0);
        due(x.door(0, 4), 1);
        due(x.in(0, 0), 1);
    }

    private static void tellingActs() {
        StackKeys x = base();
        due(told(x), NONE);
        due(told(x, 0, 1, 0, 0, 0, 0, 0, 1, 0, 0, 0, 1, 0, 0, 4), NONE);
        due(x.end(1), false);
        due(x.person(0, 0), 0);
        due(x.key(0, 1), 2);
        due(told(x, 0, 0, 0), 0);
        due(told(x, 0, 1, 0, 0, 0, 0, 0, 0, 1), 2);
        due(told(x, 0, 1, 0, 0), 1);
        due(told(x, 0, 1, 0, 0, 0), 1);
        due(told(x, 0), 0);
        due(told(x, 0, 3, 0), 0);
        due(told(x, 2, 0, 0), 0);
        due(told(x, 255, 0, 0), 0);
        due(told(x, 1, 0, 255), 0);
        due(told(x, 0, 1, 1), 0);
        due(told(x, 0, 2, 2, 0, 1, 0, 0, 1, 0), NONE);
        due(told(x, 0, 2, 0), 0);
        due(told(x, 0, 2, 3), 0);
        due(told(x, 1, 2, 3), 0);
        due(x.status(2), 0);
        StackKeys y = with("has pat moe;");
        due(told(y, 0, 2, 0, 0, 1, 2, 0, 2, 0, 0, 2, 0), 3);
        due(told(y, 0, 2, 2, 0, 1, 0, 0, 2, 2, 0, 1, 2), 3);
        StackKeys z = with("has pat moe;shut tin by kay;shut urn by kay;shut fir by kay;"
                + "door g inn lane 1;shut g by kay;box h at inn;");
        due(told(z, 0, 2, 5), NONE);
        due(told(z, 0, 2, 6), 0);
    }

    private static void reaching() {
        StackKeys x = base();
        due(x.reach(0, 0), 0);
        due(x.reach(0, 1), 2);
        due(x.reach(0, 2), 4);
        due(x.reach(0, 3), 5);
        due(x.reach(1, 3), 1);
        due(x.reach(1, 1), NONE);
        due(x.reach(0, 4), NONE);
        due(x.reach(0, -1), NONE);
        due(x.reach(2, 0), NONE);
        due(x.reach(-1, 0), NONE);
        due(x.reach(HIGH, LOW), NONE);
        due(x.person(0, 0), 0);
        due(x.key(0, 1), 2);
        StackKeys y = with("bar fir when who=0 and closed>0;shut urn by moe;");
        due(y.reach(0, 3), NONE);
        StackKeys z = town("place a;place b;place c;door d a b 1;door e b c 1;box f at a;key k in a;person p at a;has p k;"
                + "shut f by k;bar e when closed<1;bar d when closed>0 and spot=0;");
        due(z.reach(0, 1), 2);
        due(z.reach(0, 2), NONE);
        StackKeys far = town("place a;place b;place c;door d a b 1;door e b c 1;key k in a;key m in a;person p at a;has p k;"
                + "has p m;shut d by k;shut e by k;shut d by m;shut e by m;");
        due(far.reach(0, 2), NONE);
        StackKeys both = town("place a;place b;place c;door d a b 1;door e b c 1;key k in a;key m in a;person p at a;"
                + "has p k;has p m;shut e by k;shut d by k;shut e by m;shut d by m;");
        due(both.reach(0, 1), 3);
        due(both.reach(0, 2), 6);
    }

    private static void openingAlone() {
        StackKeys x = base();
        due(x.opens(0, 0), 1);
        due(x.opens(0, 1), 3);
        due(x.opens(0, 2), 0);
        due(x.opens(0, 3), NONE);
        due(x.opens(1, 0), NONE);
        due(x.opens(1, 4), 0);
        due(x.opens(0, 5), NONE);
        due(x.opens(0, -1), NONE);
        due(x.opens(2, 0), NONE);
        due(x.opens(LOW, HIGH), NONE);
        due(with("lost tin;").opens(0, 2), NONE);
        StackKeys y = with("has quin lob;shut fir by lob;");
        due(y.opens(1, 3), 2);
        due(y.opens(1, 4), 1);
    }

    private static void errands() {
        StackKeys x = base();
        due(x.errands(0), 5);
        due(x.errands(1), NONE);
        due(x.errands(2), NONE);
        due(x.errands(-1), NONE);
        due(x.errands(HIGH), NONE);
        StackKeys y = with("has quin lob;person rue at yard;thing pin in tin;wants rue pin;wants pat pin;");
        due(y.errands(1), 2);
        due(y.errands(2), NONE);
        due(y.errands(0), 5);
        StackKeys z = with("person rue at yard;wants rue hat;");
        due(z.errands(2), 0);
        due(with("person rue at yard;").errands(2), 0);
        StackKeys w = town("place a;place b;place c;door d a b 1;door e a c 1;person p at a;thing t in b;thing u in c;"
                + "wants p t;wants p u;");
        due(w.errands(0), 3);
    }

    /** Eight places, ten doors from the first place, four keys with full rows, all with a person at the last place. */
    private static String fullTown(String more) {
        StringBuilder text = new StringBuilder();
        for (char c = 'a'; c < 'i'; c++) {
            text.append("place p").append(c).append(';');
        }
        for (char c = 'a'; c < 'k'; c++) {
            text.append("door d").append(c).append(" pa p").append((char) ('b' + (c - 'a') % 7)).append(" 5;");
        }
        text.append("person x at ph;person y at pb;person z at pc;");
        for (char k = 'a'; k < 'e'; k++) {
            text.append("key k").append(k).append(" in pa;has x k").append(k).append(';');
            for (char c = 'f'; c >= 'a'; c--) {
                text.append("shut d").append(c).append(" by k").append(k).append(';');
            }
        }
        return text.append(more).toString();
    }

    private static void fullErrands() {
        StackKeys x = town(fullTown("thing t in ph;thing u in ph;thing v in pa;wants x t;wants x u;wants y t;wants y v;"));
        due(x.image(), 36);
        int[] bytes = new int[35];
        for (int k = 0; k < 35; k++) {
            bytes[k] = x.octet(k);
        }
        due(x.octet(35), sum(bytes));
        due(x.octet(36), NONE);
        due(put(x, bytes), true);
        due(x.errands(0), 0);
        due(x.errands(1), 2);
        due(x.reach(0, 4), 18);
        due(x.opens(0, 5), 25);
        StackKeys y = town(fullTown("thing t in pg;thing u in pe;wants x t;wants x u;bar df when closed<1;"));
        due(y.errands(0), NONE);
        due(town(fullTown("thing t in pg;thing u in pe;wants x t;wants x u;bar df when closed>0;")).errands(0), 28);
    }

    /** A bar that holds while all ten are shut, and one that holds from then on. */
    private static void fullBars() {
        StringBuilder text = new StringBuilder("place a;place b;place c;door d a b 1;door e b c 1;");
        for (char c = 'f'; c < 'n'; c++) {
            text.append("box ").append(c).append(" at a;lost ").append(c).append(';');
        }
        text.append("key y in a;key z in a;person p at a;has p y;has p z;");
        StackKeys x = town(text + "shut d by y;shut e by z;bar d when closed=10;bar d when closed>9;bar d when closed<9;");
        due(x.has(8), 10);
        due(x.reach(0, 1), 2);
        due(x.reach(0, 2), 4);
        StackKeys y = town(text + "shut d by y;shut e by z;bar d when closed=9;");
        due(y.reach(0, 1), NONE);
        StackKeys z = town(text + "shut d by y;shut e by z;bar e when closed=8;");
        due(z.reach(0, 2), NONE);
    }

    private static void lentKeys() {
        StackKeys x = base();
        due(x.lent(1, 1, 0), NONE);
        due(x.lent(1, 1, 1), NONE);
        due(x.lent(0, 3, 0), 1);
        due(x.lent(0, 3, 1), 5);
        due(x.lent(0, 3, 2), 0);
        due(x.lent(0, 3, 3), NONE);
        due(x.lent(0, 3, -1), NONE);
        due(x.lent(0, 4, 0), NONE);
        due(x.lent(2, 0, 0), NONE);
        due(x.lent(-1, -1, 0), NONE);
        due(x.lent(HIGH, LOW, 2), NONE);
        x.snap(1);
        due(x.lent(0, 3, 0), 2);
        x.snap(2);
        due(x.lent(0, 3, 0), NONE);
        StackKeys y = with("door gap inn yard 1;shut gap by moe;");
        due(y.lent(0, 3, 0), 2);
        due(y.lent(0, 3, 1), 2);
        due(y.lent(0, 3, 2), 3);
        StackKeys z = with("shut fir by moe;");
        due(z.reach(1, 3), NONE);
        due(z.lent(1, 3, 0), 2);
        due(z.lent(1, 3, 1), 2);
        due(z.lent(1, 3, 2), NONE);
        StackKeys w = with("door gap inn yard 1;bar gap when keys>1;");
        due(w.reach(0, 3), 1);
        due(w.lent(0, 3, 1), 5);
        due(w.lent(0, 3, 2), -4);
    }

    private static void lockedIn() {
        StackKeys x = base();
        due(x.locked(), 0);
        x.snap(0);
        due(x.locked(), 1);
        x.go(1, 4);
        due(x.locked(), 1);
        due(with("lost fir;").locked(), 2);
        StackKeys y = town("place a;place b;box c at a;person p at a;person q at b;");
        due(y.locked(), 0);
        StackKeys z = town("place a;place b;door d a b 1;bar d when spot=1;person p at a;person q at b;");
        due(z.locked(), 2);
    }

    private static void together() {
        StackKeys x = with("has quin moe;shut oak by moe;shut fir by moe;lost tin;");
        due(x.can(0, 0), 0);
        due(x.can(1, 0), 0);
        due(x.can(2, 0), 0);
        due(x.can(3, 0), 1);
        due(x.can(1, 1), 1);
        due(x.can(2, 1), 0);
        due(x.can(3, 2), 0);
        due(x.can(3, 3), 0);
        due(x.can(2, 4), 1);
        due(x.can(4, 0), NONE);
        due(x.can(-1, 0), NONE);
        due(x.can(3, 5), NONE);
        due(x.can(3, -1), NONE);
        due(x.can(LOW, HIGH), NONE);
        due(base().can(0, 4), 1);
        due(base().can(0, 2), 1);
    }

    private static void needed() {
        StackKeys x = with("has quin moe;shut oak by moe;shut fir by moe;lost tin;");
        due(x.needs(0, 0), 2);
        due(x.needs(0, 1), 3);
        due(x.needs(1, 0), 1);
        due(x.needs(1, 1), 2);
        due(x.needs(2, 0), NONE);
        due(x.needs(3, 0), NONE);
        due(x.needs(3, 1), NONE);
        due(x.needs(4, 1), 1);
        due(x.needs(4, 2), NONE);
        due(x.needs(4, -1), NONE);
        due(x.needs(5, 0), NONE);
        due(x.needs(-1, 0), NONE);
        due(x.needs(HIGH, LOW), NONE);
        StackKeys y = base();
        due(y.needs(4, 0), 0);
        due(y.needs(4, 1), 0);
        y.snap(0);
        due(y.needs(0, 0), NONE);
        StackKeys z = with("has pat moe;shut oak by moe;");
        due(z.needs(0, 0), 1);
        due(z.needs(0, 1), 2);
    }

    private static StackKeys musts(String... told) {
        StringBuilder text = new StringBuilder("place a;box d at a;box e at a;box f at a;");
        for (String must : told) {
            text.append("must ").append(must).append(';');
        }
        return town(text.toString());
    }

    private static void crossings(StackKeys x, int first, int second) {
        due(x.cross(0), first);
        due(x.cross(1), second);
    }

    private static void crossing() {
        crossings(base(), 0, 2);
        due(base().cross(2), NONE);
        due(base().cross(-1), NONE);
        due(base().cross(LOW), NONE);
        crossings(musts(), NONE, NONE);
        crossings(musts("d 0 9", "e 9 12"), NONE, NONE);
        crossings(musts("d 0 9", "e 0 12"), NONE, NONE);
        crossings(musts("d 0 9", "e 3 9"), NONE, NONE);
        crossings(musts("d 0 9", "e 3 8"), NONE, NONE);
        crossings(musts("d 0 9", "e 8 10"), 0, 1);
        crossings(musts("d 8 10", "e 0 9"), 0, 1);
        crossings(musts("d 0 9", "d 3 8"), 0, 1);
        crossings(musts("d 0 9", "d 9 10"), NONE, NONE);
        crossings(musts("d 0 9", "d 0 9"), 0, 1);
        crossings(musts("d 5 5", "d 0 9"), 0, 1);
        crossings(musts("d 5 5", "d 5 5"), NONE, NONE);
        crossings(musts("d 5 5", "e 0 9"), NONE, NONE);
        crossings(musts("d 0 1", "e 5 9", "f 2 3", "f 6 12"), 1, 3);
    }

    private static void fewestKeys() {
        StackKeys x = base();
        due(x.fewest(NONE), 2);
        due(x.fewest(0), 0);
        due(x.fewest(1), 0);
        due(x.fewest(2), 1);
        due(x.fewest(3), NONE);
        due(x.fewest(-2), NONE);
        due(x.fewest(HIGH), NONE);
        due(musts().fewest(NONE), 0);
        due(musts().fewest(0), NONE);
        StackKeys y = musts("d 0 9", "e 5 20", "f 9 12", "d 8 30", "e 0 2");
        due(y.fewest(NONE), 3);
        due(y.fewest(0), 0);
        due(y.fewest(1), 1);
        due(y.fewest(2), 0);
        due(y.fewest(3), 2);
        due(y.fewest(4), 0);
        StackKeys z = musts("d 0 4", "e 8 12", "f 3 6", "e 5 9");
        due(z.fewest(NONE), 2);
        due(z.fewest(0), 0);
        due(z.fewest(1), 1);
        due(z.fewest(2), 1);
        due(z.fewest(3), 0);
        StackKeys six = musts("d 0 9", "d 0 9", "d 0 9", "d 0 9", "d 0 9", "d 0 9");
        due(six.fewest(NONE), 6);
        due(six.fewest(5), 5);
    }

    private static void ordering() {
        StackKeys x = musts("d 5 9", "e 0 3", "f 5 12", "e 5 9", "d 0 3");
        int[] all = {1, 4, 2, 0, 3};
        for (int k = 0; k < 5; k++) {
            due(x.order(k), all[k]);
        }
        due(x.order(5), NONE);
        due(x.order(-1), NONE);
        due(x.order(LOW), NONE);
        due(musts().order(0), NONE);
    }

    private static StackKeys losses() {
        return town("place a;box d at a;box e at a;box f at a;box g at a;lost d;lost f;lost g;");
    }

    private static void trying() {
        StackKeys x = losses();
        due(x.trial(1, true), 0);
        due(x.unsay(), 0);
        due(x.trial(1, false), 16);
        due(x.trial(2, true), 5);
        due(x.trial(2, false), 5);
        due(x.trial(0, false), 3);
        due(x.trial(3, true), 2);
        due(x.trial(4, true), NONE);
        due(x.trial(-1, false), NONE);
        due(x.trial(HIGH, false), NONE);
        due(x.status(4), 3);
        for (int i = 5; i < 20; i++) {
            due(x.trial(1, false), 2);
        }
        due(x.trial(1, false), NONE);
        due(x.status(4), 4);
        due(x.unsay(), 19);
        due(x.trial(1, true), 0);
        StackKeys all = town("place a;box b at a;box c at a;box d at a;box e at a;"
                + "box f at a;box g at a;box h at a;box i at a;box j at a;box k at a;lost b;lost c;lost d;lost e;lost f;lost g;"
                + "lost h;lost i;lost j;lost k;");
        due(all.fits(NONE), 821);
        due(all.trial(0, false), 739);
    }

    private static void fitting() {
        StackKeys x = losses();
        due(x.fits(NONE), 16);
        due(x.fits(0), NONE);
        x.trial(3, true);
        due(x.fits(NONE), 5);
        due(x.fits(0), 3);
        due(x.fits(1), NONE);
        x.trial(2, true);
        due(x.fits(NONE), 2);
        due(x.fits(0), 2);
        due(x.fits(1), 3);
        due(x.fits(2), NONE);
        x.trial(0, true);
        due(x.fits(0), 0);
        due(x.fits(1), 2);
        due(x.fits(2), 3);
        due(x.fits(3), NONE);
        due(x.fits(-2), NONE);
        due(x.fits(LOW), NONE);
        due(x.fits(HIGH), NONE);
        x.trial(0, true);
        due(x.fits(NONE), 0);
        due(x.fits(0), NONE);
        StackKeys y = losses();
        y.trial(0, false);
        y.trial(2, true);
        y.trial(0, true);
        due(y.fits(NONE), 2);
        due(y.fits(0), 0);
        due(y.fits(1), 2);
    }

    private static void wouldOpen() {
        StackKeys x = losses();
        due(x.would(0), 5);
        due(x.would(1), 0);
        due(x.would(3), 5);
        x.trial(0, true);
        due(x.would(0), 0);
        due(x.would(2), 2);
        due(x.would(3), 2);
        x.trial(2, true);
        due(x.would(2), 0);
        due(x.would(3), 1);
        due(x.would(4), NONE);
        due(x.would(-1), NONE);
        due(x.would(HIGH), NONE);
    }

    private static void unsaying() {
        StackKeys x = losses();
        due(x.unsay(), NONE);
        x.trial(0, true);
        x.trial(2, true);
        due(x.unsay(), 1);
        due(x.fits(NONE), 5);
        due(x.unsay(), 0);
        due(x.fits(NONE), 16);
        due(x.unsay(), NONE);
        due(x.status(4), 2);
    }

    private static void rounds() {
        StackKeys x = base();
        due(x.round(1, 8), 14);
        due(x.round(1, 4), 0);
        due(x.round(1, 0), 0);
        due(x.round(1, 1), NONE);
        due(x.round(1, -16), 0);
        due(x.round(1, -4), 14);
        due(x.round(2, 1), NONE);
        due(x.round(-1, 1), NONE);
        due(x.round(HIGH, LOW), NONE);
        StackKeys y = town("place a;place b;place c;place d;door ab a b 1;door bc b c 2;door cd c d 3;door da d a 9;"
                + "door ac a c 7;person p at a;bar ab when all;");
        due(y.round(0, 15), 12);
        due(y.round(0, 2), 2);
        due(y.round(0, 4), 6);
        due(y.round(0, 8), 12);
        StackKeys z = town("place a;place b;place c;door ab a b 5;door bc b c 5;door ca c a 5;door ba a b 2;person p at a;");
        due(z.round(0, 6), 12);
        due(z.round(0, 2), 4);
        due(z.round(0, 7), 12);
    }

    private static void images() {
        StackKeys x = base();
        int[] want = {0, 2, 0, 2, 1, 0, 22, 1, 3, 23, 0};
        due(x.image(), want.length + 1);
        for (int k = 0; k < want.length; k++) {
            due(x.octet(k), want[k]);
        }
        due(x.octet(want.length), sum(want));
        x.snap(0);
        x.take(0, 1);
        due(x.image(), 12);
        due(x.octet(2), 40);
        due(x.octet(6), 0);
        StackKeys y = new StackKeys();
        due(y.image(), 1);
        due(y.octet(0), 19);
    }

    private static void octets() {
        StackKeys x = base();
        due(x.octet(0), NONE);
        due(x.octet(-1), NONE);
        x.image();
        x.open(0, 0);
        due(x.octet(3), 2);
        due(x.octet(12), NONE);
        due(x.octet(-1), NONE);
        due(x.octet(LOW), NONE);
        due(x.octet(HIGH), NONE);
        tell(x, "place a;");
        due(x.octet(3), 2);
        due(x.image(), 1);
        due(x.octet(1), NONE);
    }

    private static void puttingOn() {
        StackKeys x = base();
        due(put(x, 3, 1, 1, 0, 40, 1, 4, 12, 3, 3, 0, 4), true);
        due(x.end(1), false);
        due(x.person(0, 0), 3);
        due(x.person(1, 0), 1);
        due(x.key(0, 0), 1);
        due(x.key(0, 1), 0);
        due(x.key(1, 0), 40);
        due(x.key(1, 2), 4);
        due(x.key(2, 0), 12);
        due(x.in(2, 1), 0);
        due(x.has(8), 3);
        due(put(x, 3, 1, 1, 0, 40, 0, 23, 6, 3, 0, 4, 1, 2, 2), false);
        due(put(x, 4, 1, 1, 0, 40, 0, 12, 0), false);
        due(put(x, 3, 1, 2, 0, 40, 0, 12, 0), false);
        due(put(x, 3, 1, 14, 0, 40, 0, 12, 0), false);
        due(put(x, 3, 1, 20, 0, 40, 0, 12, 0), false);
        due(put(x, 3, 1, 25, 0, 40, 0, 12, 0), false);
        due(put(x, 3, 1, 41, 0, 40, 0, 12, 0), false);
        due(put(x, 3, 1, 255, 0, 40, 0, 12, 0), false);
        due(put(x, 3, 1, 0, 7, 0, 1, 2, 3, 4, 0, 1, 40, 0, 12, 0), false);
        due(put(x, 3, 1, 0, 1, 5, 40, 0, 12, 0), false);
        due(put(x, 3, 1, 0, 2, 1, 1, 40, 0, 12, 0), false);
        due(put(x, 3, 1, 0, 0, 40, 0, 12, 0, 0), false);
        due(put(x, 3, 1, 0, 0, 40, 0, 12), false);
        due(put(x, 3, 1, 0, 0, 40, 0), false);
        x.end(0);
        due(x.on(), false);
        feed(x, 3, 1, 0, 0, 40, 0, 12, 0, sum(3, 1, 0, 0, 40, 0, 12, 0) + 1);
        due(x.on(), false);
        due(x.status(5), 16);
        due(x.person(0, 0), 3);
        due(x.key(2, 1), 3);
        due(put(x, 0, 0, 22, 0, 10, 5, 0, 1, 2, 3, 4, 23, 0), true);
        due(x.key(1, 0), 10);
        StackKeys y = new StackKeys();
        due(put(y), true);
        due(put(y, 0), false);
    }

    private static void refusals() {
        StackKeys x = base();
        for (int what = 0; what < 6; what++) {
            due(x.status(what), 0);
        }
        x.end(-1);
        x.go(0, 0);
        x.open(1, 0);
        x.shut(0, 0, 0);
        x.lend(0, 0, 0);
        x.take(0, 0);
        x.lay(0, 0, 0);
        x.snap(9);
        x.trial(9, true);
        x.unsay();
        x.on();
        tell(x, ";");
        int[] all = {1, 1, 3, 4, 2, 1};
        for (int what = 0; what < 6; what++) {
            due(x.status(what), all[what]);
        }
        tell(x, BASE);
        due(x.status(3), 4);
        x.row();
        x.reach(9, 9);
        x.can(9, 9);
        x.fits(9);
        x.octet(99);
        due(x.status(2), 3);
        due(x.status(6), NONE);
        due(x.status(-1), NONE);
        due(x.status(LOW), NONE);
    }

    private static void all() {
        Runnable[] tests = {PromisesTest::newObject, PromisesTest::feeding, PromisesTest::ending, PromisesTest::towns,
            () -> {
                faultsOfForm();
                faultsOfNames();
                faultsOfNumbers();
            }, PromisesTest::counts, PromisesTest::letters, PromisesTest::doors, PromisesTest::keys, PromisesTest::rows,
            PromisesTest::persons, () -> {
                going();
                bars();
            }, PromisesTest::opening, PromisesTest::shutting, PromisesTest::lending, PromisesTest::taking,
            PromisesTest::laying, PromisesTest::snapping, PromisesTest::tellingActs, () -> {
                reaching();
                fullBars();
            }, PromisesTest::openingAlone, () -> {
                errands();
                fullErrands();
            }, PromisesTest::lentKeys, PromisesTest::lockedIn,
            PromisesTest::together, PromisesTest::needed, PromisesTest::crossing, PromisesTest::fewestKeys,
            PromisesTest::ordering, PromisesTest::trying, PromisesTest::fitting, PromisesTest::wouldOpen,
            PromisesTest::unsaying, PromisesTest::rounds, PromisesTest::images, PromisesTest::octets,
            PromisesTest::puttingOn, PromisesTest::refusals};
        for (Runnable test : tests) {
            promise++;
            test.run();
        }
    }

    public static void main(String[] args) {
        all();
        finish(promise + " promises");
    }
}
