/** Promises 20 to 24 with part III of the terms: what one person can do by going and opening alone. */
final class AloneEdges extends Edges {
    /** Places a 0 to d 3 in a row; doors ab 0, bc 1, cd 2, boxes x 3 at a, y 4 at b; persons p 0 at a, q 1 at c; keys k 0, m 1, n 2. */
    private static final String BASE = "place a;place b;place c;place d;door ab a b 1;door bc b c 1;door cd c d 1;"
            + "box x at a;box y at b;person p at a;person q at c;key k in a;key m in a;key n in a;";
    private static final int[] OUTSIDE = {-1, -2, LOW, HIGH, 8, 32, 255};

    private AloneEdges() {
    }

    static void all() {
        coming();
        onlyGoAndOpen();
        barsAlone();
        openingAlone();
        errands();
        had();
        lent();
        saved();
        lentNone();
        lockedIn();
        mostActs();
        everyStart();
        fullTown();
        oneBehindTheOther();
    }

    private static StackKeys base(String more) {
        return town(BASE + more);
    }

    private static void coming() {
        says(20, "By how few ACTS a PERSON COMES to a PLACE;");
        says(20, "It COMES to a PLACE by the fewest such ACTS;");
        StackKeys x = base("");
        for (int place = 0; place < 4; place++) {
            due(x.reach(0, place), place);
            due(x.reach(1, place), Math.abs(2 - place));
        }
        StackKeys y = base("door ad a d 1;");
        due(y.reach(0, 3), 1);
        due(y.reach(0, 2), 2);
        StackKeys z = base("has p k;shut bc by k;shut ab by k;lost cd;");
        due(z.reach(0, 0), 0);
        due(z.reach(0, 1), 2);
        due(z.reach(0, 2), 4);
        due(z.reach(0, 3), NONE);
        StackKeys around = base("door ad a d 1;has p k;shut ad by k;lost bc;");
        due(around.reach(0, 3), 2);
        due(around.reach(0, 2), 3);
        due(around.reach(1, 0), NONE);
        says(20, "NONE if it can't, or there are none such.");
        due(x.reach(0, 4), NONE);
        due(x.reach(2, 0), NONE);
        due(x.reach(3, 0), NONE);
        for (int no : OUTSIDE) {
            due(x.reach(no, 0), NONE);
            due(x.reach(0, no), NONE);
            due(x.reach(no, no), NONE);
        }
        due(town("place a;place b;person p at a;").reach(0, 1), NONE);
        due(base("lost ab;").reach(0, 1), NONE);
        due(base("shut ab by k;").reach(0, 1), NONE);
    }

    private static void onlyGoAndOpen() {
        says(20, "ALONE a PERSON has the KEYS that it has, and does only GO and OPEN (all else, and all others, stay).");
        due(base("shut ab by k;").reach(0, 1), NONE);
        due(base("has q k;shut ab by k;").reach(0, 1), NONE);
        due(base("has p k;shut ab by k;").reach(0, 1), 2);
        due(base("has p k;shut bc by k;shut ab by k;").reach(0, 2), 4);
        due(base("has p k;shut ab by k;shut bc by k;").reach(0, 2), NONE);
        due(base("has p k;shut ab by k;shut x by k;").reach(0, 1), 3);
        due(base("has p k;shut ab by k;shut y by k;").reach(0, 1), NONE);
        due(base("has p k;has p m;shut ab by k;shut ab by m;").reach(0, 1), 3);
        due(base("has p k;shut ab by k;shut ab by m;").reach(0, 1), NONE);
        due(base("has p k;shut ab by k;lost ab;").reach(0, 1), NONE);
        StackKeys x = base("has p k;shut bc by k;shut ab by k;");
        String before = standing(x);
        due(x.reach(0, 3), 5);
        due(x.person(0, 2), 4);
        due(x.opens(0, 1), 3);
        due(x.errands(0), 0);
        due(x.lent(0, 3, 0), 1);
        due(x.locked(), 0);
        due(standing(x), before);
        x.snap(0);
        due(x.reach(0, 1), NONE);
        StackKeys y = base("has p k;has q m;shut ab by k;shut bc by m;");
        due(y.reach(0, 2), NONE);
        due(y.reach(1, 0), NONE);
        due(y.reach(1, 1), 2);
    }

    private static void barsAlone() {
        says(20, "and no BAR of which holds (as it is ahead of that): to its other PLACE.");
        due(base("bar ab when who=0;").reach(0, 1), NONE);
        due(base("bar ab when who=1;").reach(0, 1), 1);
        due(base("bar ab when spot=1;").reach(0, 1), 1);
        due(base("bar ab when spot=0;").reach(0, 1), NONE);
        due(base("has p k;bar ab when keys<1;").reach(0, 1), 1);
        due(base("has p k;bar ab when keys>0;").reach(0, 1), NONE);
        due(base("has p k;shut x by k;bar ab when closed>0;").reach(0, 1), 2);
        due(base("has p k;shut x by k;bar ab when closed<1;").reach(0, 1), 1);
        due(base("has p k;shut x by k;shut x by m;bar ab when closed>0;").reach(0, 1), NONE);
        due(base("has p k;shut y by k;shut x by k;lost cd;bar ab when closed>2;bar bc when closed>1;").reach(0, 2), 4);
        due(base("has p k;shut y by k;shut x by k;lost cd;bar ab when closed>2;bar bc when closed>0;").reach(0, 2), NONE);
        due(base("has p k;shut ab by k;bar bc when closed=0;").reach(0, 2), NONE);
        due(base("door two a b 1;bar ab when all;bar two when all;").reach(0, 1), NONE);
        due(base("door two a b 1;bar two when all;bar ab when all;").reach(0, 1), NONE);
        due(base("door two a b 1;bar two when all;bar ab when not all;").reach(0, 1), 1);
        due(base("door two a b 1;bar ab when all;").reach(0, 1), 1);
    }

    private static void openingAlone() {
        says(21, "it OPENS a DOOR or BOX by the fewest ACTS behind which that is not SHUT (0, if it is so now).");
        says(21, "By how few ACTS a PERSON OPENS a DOOR or BOX;");
        StackKeys x = base("has p k;shut cd by k;shut bc by k;shut x by k;");
        int[] acts = {0, 3, 5, 1, 0};
        for (int d = 0; d < 5; d++) {
            due(x.opens(0, d), acts[d]);
            due(x.opens(1, d), d == 0 || d == 4 ? 0 : NONE);
        }
        StackKeys both = base("has p k;has p m;shut ab by k;shut ab by m;");
        due(both.opens(0, 0), 2);
        StackKeys back = base("has q k;shut ab by k;");
        due(back.opens(1, 0), 2);
        says(21, "NONE if it can't, or there are none such.");
        due(base("lost x;").opens(0, 3), NONE);
        due(base("has p k;shut x by k;lost x;").opens(0, 3), NONE);
        due(base("has p k;shut x by k;shut x by m;").opens(0, 3), NONE);
        due(base("shut x by k;").opens(0, 3), NONE);
        due(x.opens(0, 5), NONE);
        due(x.opens(2, 0), NONE);
        for (int no : new int[] {-1, -2, LOW, HIGH, 10, 32, 255}) {
            due(x.opens(no, 0), NONE);
            due(x.opens(0, no), NONE);
        }
    }

    private static void errands() {
        says(22, "ERRANDS: by how few ACTS;");
        says(22, "ERRANDS: the fewest ACTS by which it has HAD all THINGS that it wants, in any order:");
        due(base("").errands(0), 0);
        String two = "thing t in d;thing u in b;";
        due(base(two + "wants p t;").errands(0), 3);
        due(base(two + "wants p u;").errands(0), 1);
        due(base(two + "wants p t;wants p u;").errands(0), 3);
        due(base(two + "wants q t;wants q u;").errands(1), 3);
        due(base(two + "wants q u;wants q t;").errands(1), 3);
        due(base("thing t in a;thing u in d;wants q t;wants q u;").errands(1), 4);
        due(base("thing t in a;thing u in d;wants q u;wants q t;").errands(1), 4);
        due(base("thing t in a;thing u in d;wants q u;wants q t;").errands(0), 0);
        due(base("thing t in d;thing u in d;wants p t;wants p u;").errands(0), 3);
        says(22, "NONE if they can't be, or there is none such.");
        due(base("thing t in d;lost cd;wants p t;").errands(0), NONE);
        due(base("thing t in d;thing u in a;lost cd;wants p t;wants p u;").errands(0), NONE);
        due(base("thing t in d;thing u in a;lost cd;wants p u;").errands(0), 0);
        due(base("thing t in x;lost x;wants p t;").errands(0), NONE);
        StackKeys x = base("");
        due(x.errands(1), 0);
        due(x.errands(2), NONE);
        for (int no : OUTSIDE) {
            due(x.errands(no), NONE);
        }
    }

    private static void had() {
        says(22, "a THING is HAD when it is in the PLACE of the THING, or of its BOX, that not being SHUT (also ahead of the first "
                + "ACT).");
        due(base("thing t in a;wants p t;").errands(0), 0);
        due(base("thing t in x;wants p t;").errands(0), 0);
        due(town("place a;box x at a;person p at a;thing t in x;wants p t;").errands(0), 0);
        due(town("place a;box x at a;person p at a;thing t in x;wants p t;lost x;").errands(0), NONE);
        due(base("thing t in y;wants p t;").errands(0), 1);
        due(base("thing t in a;thing u in x;wants p t;wants p u;").errands(0), 0);
        due(base("thing t in a;thing u in y;wants p t;wants p u;").errands(0), 1);
        due(base("thing t in x;has p k;shut x by k;wants p t;").errands(0), 1);
        due(base("thing t in x;has p k;shut x by k;shut ab by k;wants p t;").errands(0), 2);
        due(base("thing t in y;has p k;shut y by k;wants p t;").errands(0), 2);
        due(base("thing t in y;has p k;shut y by k;shut ab by k;wants p t;").errands(0), 3);
        due(base("thing t in x;shut x by k;wants p t;").errands(0), NONE);
        due(base("thing t in x;has p k;shut x by k;shut x by m;wants p t;").errands(0), NONE);
        due(base("thing t in x;has p k;has p m;shut x by k;shut x by m;wants p t;").errands(0), 2);
        due(base("thing t in x;thing u in d;has p k;shut x by k;wants p t;wants p u;").errands(0), 4);
        due(base("thing t in a;thing u in b;wants p t;wants p u;bar ab when spot=1;").errands(0), 1);
        due(base("thing t in x;thing u in y;has p k;shut x by k;shut y by k;wants p t;wants p u;").errands(0), 4);
    }

    private static void lent() {
        says(23, "LENT: the KEY (what 0), by how few ACTS then (1),");
        says(23, "LENT: of all KEYS that it has not (and are not broken), the one with which besides it would COME to a PLACE by the "
                + "fewest ACTS, the first of like ones; what that saves.");
        StackKeys same = base("");
        due(same.lent(0, 0, 0), 0);
        due(same.lent(0, 0, 1), 0);
        due(same.lent(0, 3, 0), 0);
        due(same.lent(0, 3, 1), 3);
        due(base("has p k;").lent(0, 3, 0), 1);
        due(base("has p k;has p m;").lent(0, 3, 0), 2);
        due(base("has q k;").lent(0, 3, 0), 0);
        due(base("key o in y;shut y by o;has p k;has p m;has p n;").lent(0, 3, 0), 3);
        StackKeys last = base("shut ab by n;");
        due(last.lent(0, 1, 0), 2);
        due(last.lent(0, 1, 1), 2);
        StackKeys like = base("door ac a c 1;door ad a d 1;shut ab by k;shut ac by m;shut ad by n;");
        due(like.lent(0, 3, 0), 2);
        due(like.lent(0, 3, 1), 2);
        due(like.lent(0, 2, 0), 1);
        due(like.lent(0, 1, 0), 0);
        StackKeys equal = base("door two a b 1;shut ab by m;shut two by n;shut x by k;");
        due(equal.lent(0, 1, 0), 1);
        due(equal.lent(0, 1, 1), 2);
        due(equal.snap(1), 1);
        due(equal.lent(0, 1, 0), 2);
        due(equal.snap(2), 1);
        due(equal.lent(0, 1, 0), NONE);
        due(equal.lent(0, 0, 0), 0);
        due(equal.snap(0), 1);
        due(equal.lent(0, 0, 0), NONE);
        due(equal.lent(0, 0, 1), NONE);
        StackKeys besides = base("has p k;shut bc by m;shut ab by k;");
        due(besides.lent(0, 2, 0), 1);
        due(besides.lent(0, 2, 1), 4);
        due(base("has p k;shut bc by m;shut ab by k;shut cd by n;").lent(0, 3, 0), NONE);
        due(base("has p k;bar ab when keys<2;").lent(0, 1, 1), 1);
        due(base("has p k;bar ab when keys>1;").lent(0, 1, 0), NONE);
    }

    private static void saved() {
        says(23, "what it saves (2; NONE if it could not come there by itself).");
        due(base("").lent(0, 0, 2), 0);
        due(base("").lent(0, 3, 2), 0);
        StackKeys x = base("door ad a d 1;shut ad by m;");
        due(x.lent(0, 3, 0), 1);
        due(x.lent(0, 3, 1), 2);
        due(x.lent(0, 3, 2), 1);
        due(x.lent(0, 2, 0), 0);
        due(x.lent(0, 2, 2), 0);
        StackKeys alone = base("shut ab by m;");
        due(alone.lent(0, 1, 0), 1);
        due(alone.lent(0, 1, 1), 2);
        due(alone.lent(0, 1, 2), NONE);
        StackKeys longer = base("door ad a d 1;bar ad when keys>0;");
        due(longer.lent(0, 3, 1), 3);
        due(longer.lent(0, 3, 2), -2);
    }

    private static void lentNone() {
        says(23, "NONE without one by which it comes there, if there are none such, or for others.");
        StackKeys x = base("lost ab;");
        for (int what = 0; what < 3; what++) {
            due(x.lent(0, 1, what), NONE);
            due(x.lent(0, 4, what), NONE);
            due(x.lent(2, 0, what), NONE);
            for (int no : OUTSIDE) {
                due(x.lent(no, 0, what), NONE);
                due(x.lent(0, no, what), NONE);
            }
        }
        due(x.lent(0, 0, 3), NONE);
        due(x.lent(0, 0, -1), NONE);
        due(x.lent(0, 0, LOW), NONE);
        due(x.lent(0, 0, HIGH), NONE);
        due(base("has p k;has p m;has p n;").lent(0, 1, 0), NONE);
        due(base("has p k;has p m;has p n;").lent(0, 1, 1), NONE);
        due(base("has p k;has p m;has p n;").lent(0, 1, 2), NONE);
        due(town("place a;person p at a;").lent(0, 0, 0), NONE);
    }

    private static void lockedIn() {
        says(24, "Who is locked in: PERSONS who ALONE can COME to no other PLACE, there being a DOOR at which they are, as bits.");
        due(base("").locked(), 0);
        due(base("lost ab;").locked(), 1);
        due(base("shut ab by k;").locked(), 1);
        due(base("has p k;shut ab by k;").locked(), 0);
        due(base("has p k;shut ab by k;shut bc by k;").locked(), 1);
        due(base("has q k;shut ab by k;").locked(), 1);
        due(base("lost bc;").locked(), 0);
        due(base("lost bc;lost cd;").locked(), 2);
        due(base("lost ab;lost bc;lost cd;").locked(), 3);
        due(base("person r at d;lost cd;").locked(), 4);
        due(base("person r at d;lost ab;lost bc;lost cd;").locked(), 7);
        due(base("bar ab when all;").locked(), 1);
        due(base("bar ab when spot=1;").locked(), 0);
        due(town("place a;place b;box x at a;person p at a;person q at b;").locked(), 0);
        due(town("place a;place b;place c;box x at c;door ab a b 1;person p at c;lost ab;lost x;").locked(), 0);
        due(town("place a;place b;door ab a b 1;lost ab;person p at b;person q at a;").locked(), 3);
        due(new StackKeys().locked(), 0);
    }

    /** Four full rows that one must open to come out: 24 acts of opening, one of going each. */
    private static void mostActs() {
        says(20, "By how few ACTS a PERSON COMES to a PLACE;");
        StringBuilder text = new StringBuilder("place a;place b;door d a b 1;");
        for (char c = 'e'; c < 'n'; c++) {
            text.append("box ").append(c).append(" at a;");
        }
        text.append("person p at a;");
        for (char k = 'q'; k < 'u'; k++) {
            text.append("key ").append(k).append(" in a;has p ").append(k).append(";shut d by ").append(k).append(';');
            for (char c = 'e'; c < 'j'; c++) {
                text.append("shut ").append(c).append(" by ").append(k).append(';');
            }
        }
        StackKeys x = town(text.toString());
        due(x.reach(0, 1), 25);
        due(x.opens(0, 0), 24);
        due(x.opens(0, 1), 20);
        due(x.opens(0, 5), 4);
        due(x.opens(0, 6), 0);
        due(x.person(0, 3), 3);
        due(x.locked(), 0);
        StackKeys y = town(text + "thing y in b;thing z in e;wants p y;wants p z;bar d when closed>0;");
        due(y.errands(0), 25);
        due(y.reach(0, 1), 25);
    }

    /** Eight places, doors aa 0 to ag 6 from a to each other one, boxes xa 7 to xc 9 at h; person p 0 at h. */
    private static String star() {
        StringBuilder text = new StringBuilder();
        for (char c = 'a'; c < 'i'; c++) {
            text.append("place p").append(c).append(';');
        }
        for (char c = 'b'; c < 'i'; c++) {
            text.append("door d").append(c).append(" pa p").append(c).append(" 1;");
        }
        return text + "box xa at ph;box xb at ph;box xc at ph;person p at ph;";
    }

    /** Two keys with each number in their rows, none of which shuts what the person needs. */
    private static void everyStart() {
        says(20, "By how few ACTS a PERSON COMES to a PLACE;");
        String[] doors = {"db", "dc", "dd", "de", "df", "xa"};
        for (int k = 0; k <= 6; k++) {
            for (int m = 0; m <= 6; m++) {
                StringBuilder text = new StringBuilder(star() + "key k in pa;key m in pa;has p k;has p m;");
                for (int i = 0; i < 6; i++) {
                    text.append(i < k ? "shut " + doors[i] + " by k;" : "").append(i < m ? "shut " + doors[i] + " by m;" : "");
                }
                StackKeys x = town(text.toString());
                due(x.reach(0, 7), 0);
                due(x.reach(0, 0), 1);
                due(x.reach(0, 6), 2);
                due(x.opens(0, 7), k == 6 && m == 6 ? 2 : k == 6 || m == 6 ? 1 : 0);
            }
        }
    }

    /** All that a town can have: the person's start is the last of all that the search can come to. */
    private static void fullTown() {
        says(22, "(also ahead of the first ACT).");
        StringBuilder rows = new StringBuilder();
        for (char k = 'k'; k < 'o'; k++) {
            rows.append("key ").append(k).append(" in pa;has p ").append(k).append(';');
            for (String door : new String[] {"db", "dc", "dd", "de", "df", "dg"}) {
                rows.append("shut ").append(door).append(" by ").append(k).append(';');
            }
        }
        StackKeys x = town(star() + rows + "thing t in ph;thing u in xc;wants p t;wants p u;");
        due(x.errands(0), 0);
        due(x.reach(0, 0), 1);
        due(x.person(0, 2), 8);
        due(x.reach(0, 1), 26);
        says(20, "and no BAR of which holds (as it is ahead of that): to its other PLACE.");
        String shut = "lost db;lost dc;lost dd;lost de;lost df;lost dg;lost xa;lost xb;lost xc;";
        String key = "key k in pa;has p k;shut dh by k;";
        due(town(star() + shut + key).has(8), 10);
        due(town(star() + shut + key + "bar dh when closed=10;").reach(0, 0), 2);
        due(town(star() + shut + key + "bar dh when closed=9;").reach(0, 0), NONE);
        due(town(star() + shut + key + "bar dh when closed>9;").opens(0, 6), 1);
    }

    /** What one search leaves behind does not count in the next one. */
    private static void oneBehindTheOther() {
        says(20, "ALONE a PERSON has the KEYS that it has, and does only GO and OPEN (all else, and all others, stay).");
        StackKeys x = base("person r at a;has p k;shut x by k;shut ab by k;has r m;shut x by m;");
        due(x.reach(0, 1), 2);
        due(x.reach(2, 1), NONE);
        due(x.opens(0, 3), NONE);
        due(x.reach(2, 1), NONE);
        due(x.opens(2, 0), NONE);
        due(x.lent(2, 1, 0), 0);
        due(x.reach(2, 1), NONE);
        due(x.reach(0, 1), 2);
        StackKeys apart = base("person r at a;has p k;shut x by k;has r m;shut cd by m;lost ab;");
        due(apart.opens(0, 3), 1);
        due(apart.opens(2, 2), NONE);
        due(apart.opens(2, 3), NONE);
        says(22, "ERRANDS: the fewest ACTS by which it has HAD all THINGS that it wants, in any order:");
        StackKeys y = base("person r at a;thing t in d;thing u in b;thing v in a;wants p t;wants p u;wants q v;");
        due(y.errands(0), 3);
        due(y.errands(1), 2);
        due(y.errands(2), 0);
        due(y.errands(1), 2);
        due(y.errands(0), 3);
        due(y.reach(0, 1), 1);
    }
}
