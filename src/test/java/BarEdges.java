/** Promises 4, 5 and 12 with part I of the terms: the tests of bars, how they are told and reckoned. */
final class BarEdges extends Edges {
    private static final String MILLION = "1000*1000";

    private BarEdges() {
    }

    static void all() {
        tests();
        facts();
        sums();
        parts();
        values();
        fromTheLeft();
        quotients();
        rests();
        caps();
        longTests();
    }

    private static String text(String test) {
        return "place a;place b;door d a b 1;person p at a;bar d when " + test + ";";
    }

    /** Whether the bar holds, the person being the first, at the first place, without keys, nothing being shut. */
    private static void holds(String test, boolean due) {
        StackKeys x = town(text(test));
        due(x.go(0, 0), due ? NONE : 1);
        due(x.person(0, 0), due ? 0 : 1);
    }

    private static void bad(String marked) {
        String told = text(marked);
        faulty(told, 1);
    }

    /** The sum is this one just: neither less nor more, nor alike with the next ones. */
    private static void reckon(String sum, String value) {
        holds(sum + "=" + value, true);
        holds(sum + "<" + value, false);
        holds(sum + ">" + value, false);
        holds(sum + "<" + value + "+1", !value.equals(MILLION));
        holds(sum + ">" + value + "-1", !value.equals("0-" + MILLION));
        holds(value + "=" + sum, true);
    }

    private static void tests() {
        says(5, "TEST: BOTH { or BOTH }. BOTH: FACT { and FACT }.");
        String no = "not all";
        String[] facts = {no, "all"};
        for (int bits = 0; bits < 8; bits++) {
            boolean a = (bits & 4) != 0;
            boolean b = (bits & 2) != 0;
            boolean c = (bits & 1) != 0;
            String fa = facts[bits >> 2];
            String fb = facts[bits >> 1 & 1];
            String fc = facts[bits & 1];
            holds(fa + " or " + fb + " or " + fc, a || b || c);
            holds(fa + " and " + fb + " and " + fc, a && b && c);
            holds(fa + " or " + fb + " and " + fc, a || b && c);
            holds(fa + " and " + fb + " or " + fc, a && b || c);
            holds("[" + fa + " or " + fb + "] and " + fc, (a || b) && c);
            holds(fa + " and [" + fb + " or " + fc + "]", a && (b || c));
            holds("not [" + fa + " and " + fb + "] or " + fc, !(a && b) || c);
        }
        bad("all or^");
        bad("all or ^or all");
        bad("all and^");
        bad("all and ^or all");
        bad("^or all");
        bad("^and all");
        bad("all ^all");
        bad("all ^not all");
        bad("all ^[all]");
    }

    private static void facts() {
        says(5, "FACT: not FACT; [ TEST ] ; all; SUM SIGN SUM, SIGN being < or > or = .");
        holds("all", true);
        holds("not all", false);
        holds("not not all", true);
        holds("not not not all", false);
        holds("not 1=2 and 1=1", true);
        holds("not 1=1 or 1=1", true);
        holds("[all]", true);
        holds("[[not all]]", false);
        holds("not[not[not all]]", false);
        for (int i = 1; i < 4; i++) {
            holds("2<" + i, 2 < i);
            holds("2>" + i, 2 > i);
            holds("2=" + i, 2 == i);
        }
        bad("not^");
        bad("[^]");
        bad("[all^");
        bad("all^]");
        bad("[all^)");
        bad("1^");
        bad("1^]");
        bad("1 ^or all");
        bad("1<^");
        bad("1<2^<3");
        bad("1=2^=2");
        bad("1<^=2");
        bad("1^!2");
        bad("all^=all");
        bad("all^=1");
        bad("1=^all");
        bad("1=^[1]");
        bad("^<2");
        bad("(1^=1)");
        bad("[1^]=1");
        bad("^d=1");
    }

    private static void sums() {
        says(5, "SUM: PRODUCT { + PRODUCT, or - PRODUCT }. PRODUCT: PART { * PART, or / PART, or % PART }.");
        reckon("1+2", "3");
        reckon("3-2", "1");
        reckon("2-3", "0-1");
        reckon("2*3", "6");
        reckon("7/2", "3");
        reckon("7%4", "3");
        bad("1+^=1");
        bad("1-^-1=1");
        bad("1+^*1=1");
        bad("^-1=1");
        bad("^+1=1");
        bad("1*^=1");
        bad("1*^/1=1");
        bad("1/^%1=1");
        bad("1=1+^");
        bad("1 ^1=1");
        bad("1 ^who=1");
    }

    private static void parts() {
        says(5, "PART: N; who; spot; keys; closed; ( SUM ) ; min ( SUM , SUM ) ; max ( SUM , SUM ) .");
        reckon("0", "0");
        reckon("9999", "9999");
        reckon("0012", "12");
        reckon("(7)", "7");
        reckon("((7)-(9))", "0-2");
        reckon("min(3,4)", "3");
        reckon("min(4,3)", "3");
        reckon("min(3,3)", "3");
        reckon("min(0-3,2)", "0-3");
        reckon("max(3,4)", "4");
        reckon("max(4,3)", "4");
        reckon("max(4,4)", "4");
        reckon("max(0-3,0-2)", "0-2");
        reckon("min(1+1,max(2*2,1))*min(5,6)", "10");
        bad("(^)=1");
        bad("(1^=1");
        bad("(1^]=1");
        bad("1^)=1");
        bad("min^=1");
        bad("min ^1,2)=1");
        bad("min(^,2)=1");
        bad("min(1^)=1");
        bad("min(1,^)=1");
        bad("min(1,2^,3)=1");
        bad("min(1,2^=1");
        bad("max(1 ^2)=1");
        bad("max^[1,2]=1");
        bad("(1^,2)=1");
        bad("^a=1");
        bad("^place=1");
    }

    private static void values() {
        says(12, "(who is the number of the PERSON, spot that of the PLACE where it is, keys how many KEYS it has, closed how "
                + "many DOORS and BOXES are SHUT.)");
        StringBuilder text = new StringBuilder();
        for (char c = 'a'; c < 'i'; c++) {
            text.append("place p").append(c).append(';');
        }
        text.append("door da ph pa 1;door db ph pa 1;");
        for (char c = 'c'; c < 'k'; c++) {
            text.append("box b").append(c).append(" at pa;");
        }
        text.append("person x at pa;person y at pa;person z at ph;");
        for (char c = 'a'; c < 'e'; c++) {
            text.append("key k").append(c).append(" in pa;");
        }
        String most = "has z ka;has z kb;has z kc;has z kd;";
        String shut = "shut bc by ka;shut bd by ka;shut be by ka;shut bf by ka;shut bg by ka;shut bh by ka;lost bi;lost bj;";
        atMost(text + most + shut + "lost db;", 2, new int[] {2, 7, 4, 9});
        atMost(text + most + shut, 2, new int[] {2, 7, 4, 8});
        atMost(text + "has z kc;" + shut + "shut bc by kb;shut bi by kb;", 2, new int[] {2, 7, 1, 8});
        atMost(text + "has z kc;", 1, new int[] {1, 0, 0, 0});
        atMost(text + "has x kc;has y kd;lost be;", 0, new int[] {0, 0, 1, 1});
        StackKeys ten = town(text + most + shut + "lost db;bar da when closed=10;");
        due(ten.go(2, 0), 0);
    }

    /** Each of who, spot, keys, closed is its value, and no other one, for this person that goes through the first door. */
    private static void atMost(String town, int person, int[] due) {
        String[] parts = {"who", "spot", "keys", "closed"};
        for (int i = 0; i < 4; i++) {
            StackKeys x = town(town + "bar da when " + parts[i] + "=" + due[i] + ";");
            due(x.go(person, 0), NONE);
            StackKeys y = town(town + "bar da when not " + parts[i] + "=" + due[i] + ";");
            due(y.go(person, 0), person == 2 ? 0 : 7);
        }
    }

    private static void fromTheLeft() {
        says(12, "All from the left on;");
        reckon("10-3-2", "5");
        reckon("10-3+2", "9");
        reckon("100/7/2", "7");
        reckon("100/(7/2)", "33");
        reckon("7/2*2", "6");
        reckon("2*7/4", "3");
        reckon("7%4*2", "6");
        reckon("2*7%4", "2");
        reckon("17%10%4", "3");
        reckon("17%(10%4)", "1");
        reckon("2+3*4", "14");
        reckon("2*3+4", "10");
        reckon("20-6/3", "18");
        reckon("20-7%4", "17");
        reckon("(20-6)/3", "4");
    }

    private static void quotients() {
        says(12, "/ gives the greatest whole number not above,");
        reckon("6/3", "2");
        reckon("7/3", "2");
        reckon("8/3", "2");
        reckon("9/3", "3");
        reckon("0/3", "0");
        reckon("2/3", "0");
        reckon("(0-1)/3", "0-1");
        reckon("(0-3)/3", "0-1");
        reckon("(0-4)/3", "0-2");
        reckon("4/(0-3)", "0-2");
        reckon("3/(0-3)", "0-1");
        reckon("(0-4)/(0-3)", "1");
        reckon("(0-3)/(0-3)", "1");
        reckon("(0-2)/(0-3)", "0");
        reckon(MILLION + "/(0-1)", "0-" + MILLION);
        reckon("(0-" + MILLION + ")/(0-1)", MILLION);
    }

    private static void rests() {
        says(12, "% what then lacks (by 0 both give 0);");
        reckon("6%3", "0");
        reckon("7%3", "1");
        reckon("8%3", "2");
        reckon("(0-1)%3", "2");
        reckon("(0-3)%3", "0");
        reckon("(0-4)%3", "2");
        reckon("4%(0-3)", "0-2");
        reckon("3%(0-3)", "0");
        reckon("(0-4)%(0-3)", "0-1");
        reckon("(0-2)%(0-3)", "0-2");
        reckon("5/0", "0");
        reckon("5%0", "0");
        reckon("0/0", "0");
        reckon("0%0", "0");
        reckon("(0-5)/0", "0");
        reckon("(0-5)%0", "0");
        reckon("5/(1-1)", "0");
        reckon("5%who", "0");
        reckon("5/1", "5");
        reckon("5%1", "0");
        reckon("5/(0-1)", "0-5");
        reckon("7+5/0*3", "7");
    }

    private static void caps() {
        says(12, "each sum, difference, product above 10 to the 6 is that, below -10 to the 6 likewise.");
        reckon("999*1000+999", MILLION + "-1");
        reckon("999*1000+1000", MILLION);
        reckon("999*1000+1001", MILLION);
        reckon("999*1000+1001-1", MILLION + "-1");
        reckon(MILLION + "+1", MILLION);
        reckon(MILLION + "+" + MILLION, MILLION);
        reckon("0-999*1000-999", "0-" + MILLION + "+1");
        reckon("0-999*1000-1000", "0-" + MILLION);
        reckon("0-999*1000-1001", "0-" + MILLION);
        reckon("0-999*1000-1001+1", "0-" + MILLION + "+1");
        reckon("0-" + MILLION + "-1", "0-" + MILLION);
        reckon("(0-" + MILLION + ")+(0-1)", "0-" + MILLION);
        reckon(MILLION + "-(0-1)", MILLION);
        reckon("1001*999", MILLION + "-1");
        reckon("1000*1000", MILLION);
        reckon("1001*1000", MILLION);
        reckon("1001*1000-1", MILLION + "-1");
        reckon("(0-1001)*999", "0-" + MILLION + "+1");
        reckon("(0-1000)*1000", "0-" + MILLION);
        reckon("(0-1001)*1000", "0-" + MILLION);
        reckon("(0-1001)*1000+1", "0-" + MILLION + "+1");
        reckon("(0-9999)*(0-9999)", MILLION);
        reckon("9999*9999*9999", MILLION);
        reckon("9999*9999*(0-9999)", "0-" + MILLION);
        reckon("9999*9999*0", "0");
        reckon("9999*9999/9999", "100");
        reckon("9999*9999%7", "1");
        reckon("9999*9999*9999/1000", "1000");
        reckon("1001*1000/1001*1001", "999*1001");
    }

    /** A text of 1600 bytes can be one test; none of its parts is too many. */
    private static void longTests() {
        says(4, "bar NAME when TEST (a DOOR; 6 BARS).");
        String ahead = "place a;place b;door d a b 1;person p at a;bar d when ";
        int room = 1600 - ahead.length() - 1;
        String ones = "1" + "+1".repeat((room - 6) / 2);
        int sum = ones.length() / 2 + 1;
        holdsWhole(ahead + ones + "=" + sum + ";", true);
        holdsWhole(ahead + ones + "=" + (sum + 1) + ";", false);
        String nots = "not ".repeat((room - 3) / 4);
        holdsWhole(ahead + nots + "all;", nots.length() / 4 % 2 == 0);
        holdsWhole(ahead + "not " + nots.substring(8) + "all;", nots.length() / 4 % 2 != 0);
        String ors = "not all or ".repeat((room - 3) / 11);
        holdsWhole(ahead + ors + "all;", true);
        holdsWhole(ahead + "all and " + "all and ".repeat((room - 20) / 8 - 1) + "not all;", false);
        StringBuilder deep = new StringBuilder();
        StringBuilder back = new StringBuilder();
        for (int i = 0; i < 8; i++) {
            deep.append("1+1*max(1+1*1,1+1*");
            back.append(')');
        }
        holdsWhole(ahead + "not all or all and 18>" + deep + "1" + back + ";", true);
        holdsWhole(ahead + "not all or all and 17>" + deep + "1" + back + ";", false);
    }

    private static void holdsWhole(String text, boolean due) {
        StackKeys x = town(text);
        due(text.length() <= 1600, true);
        due(x.go(0, 0), due ? NONE : 1);
    }
}
