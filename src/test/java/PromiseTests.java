/** For each promise: ordinary inputs, the edges that the document names, and wrong inputs. */
public final class PromiseTests {
    private static final int NONE = -1, UNKNOWN = -101, OUTSIDE = -102, STATE = -103, FULL = -104;
    private static final int LEAST = Integer.MIN_VALUE, MOST = Integer.MAX_VALUE;

    // Thing 0 shines most and weighs most; one of each kind.
    private static final String ALL_KINDS = "t990,l880,q770,n660,s550;2";

    public static void main(String[] args) {
        constants();
        newObject();
        letter();
        blank();
        fault();
        faultEverywhere();
        stile();
        stileClearsAll();
        thing();
        thingInTheLight();
        as();
        person();
        row();
        carry();
        carryWears();
        carryRefused();
        cross();
        round();
        polish();
        forgive();
        worse();
        width();
        parts();
        hope();
        game();
        see();
        hold();
        forget();
        days();
        daysFromWhatIs();
        daysDrawPeople();
        daysDrawThings();
        image();
        restore();
        count();
        digest();
        digestOfMost();
        noStile();
        Due.end("PromiseTests");
    }

    private static void due(String call, long got, long want) {
        Due.due(call, got, want);
    }

    private static void constants() {
        due("NONE", WorseStile.NONE, NONE);
        due("UNKNOWN", WorseStile.UNKNOWN, UNKNOWN);
        due("OUTSIDE", WorseStile.OUTSIDE, OUTSIDE);
        due("STATE", WorseStile.STATE, STATE);
        due("FULL", WorseStile.FULL, FULL);
    }

    private static void newObject() {
        WorseStile x = new WorseStile();
        for (int what = 0; what <= 11; what++) {
            due("new: count(" + what + ")", x.count(what), 0);
        }
        due("new: fault()", x.fault(), 0);
        due("new: blank()", x.blank(), 0);
        due("new: forget()", x.forget(), 0);
        long h = 1181;
        for (int i = 0; i < 12; i++) {
            h *= 31;
        }
        due("new: digest()", x.digest(), h);
    }

    private static void letter() {
        WorseStile x = new WorseStile();
        due("letter(31)", x.letter(31), OUTSIDE);
        due("letter(127)", x.letter(127), OUTSIDE);
        due("letter(-1)", x.letter(-1), OUTSIDE);
        due("letter least", x.letter(LEAST), OUTSIDE);
        due("letter most", x.letter(MOST), OUTSIDE);
        due("letter(32)", x.letter(32), 1);
        due("letter(126)", x.letter(126), 2);
        for (int had = 2; had < 44; had++) {
            due("letter('t') behind " + had, x.letter('t'), had + 1);
        }
        due("letter at 44", x.letter('t'), FULL);
        due("letter at 44, outside first", x.letter(127), OUTSIDE);
        due("count(10) at 44", x.count(10), 44);
        due("blank at 44", x.blank(), 44);
        due("letter again", x.letter('t'), 1);
    }

    private static void blank() {
        WorseStile x = new WorseStile();
        Due.write(x, "t9");
        due("blank()", x.blank(), 2);
        due("blank() again", x.blank(), 0);
        due("count(10) behind blank", x.count(10), 0);
        due("letter behind blank", x.letter('q'), 1);
        Due.read(x, "990,t110;1");
        Due.write(x, "junk");
        due("blank keeps the stile", x.blank(), 4);
        due("blank keeps the things", x.count(0), 2);
    }

    private static int faultOf(String text) {
        WorseStile x = new WorseStile();
        Due.write(x, text);
        return x.fault();
    }

    private static void fault() {
        String seven = "t111,t111,t111,t111,t111,t111,t111";
        String[] right = {"", "t", "t0", "t09", "t091", "t091,", "t091,s", "t091,s000;", "t091,s000;4",
            seven + ",", seven + ",n990;4", seven + ";1", "l000,q111;1"};
        for (String text : right) {
            due("fault() of " + text, faultOf(text), text.length());
        }
        due("fault() of a space", faultOf(" "), 0);
        due("fault() of T", faultOf("T111"), 0);
        due("fault() of tt", faultOf("tt"), 1);
        due("fault() of t1x", faultOf("t1x"), 2);
        due("fault() of t112", faultOf("t112"), 3);
        due("fault() of one thing", faultOf("t111;1"), 4);
        due("fault() of a sign", faultOf("t111.t111;1"), 4);
        due("fault() of a kind behind ','", faultOf("t111,,"), 5);
        due("fault() of no people", faultOf("t111,t111;0"), 10);
        due("fault() of five people", faultOf("t111,t111;5"), 10);
        due("fault() of a letter for people", faultOf("t111,t111;t"), 10);
        due("fault() of two ';'", faultOf("t111,t111;;"), 10);
        due("fault() behind all", faultOf("t111,t111;11"), 11);
        due("fault() of a ',' behind all", faultOf("t111,t111;1,"), 11);
        due("fault() of nine things", faultOf(seven + ",t111,"), 39);
        due("the first of two faults", faultOf("t1x1,x"), 2);
    }

    // Every letter at every place of one page, told by the words of the document again.
    private static void faultEverywhere() {
        String head = "q470,s221";
        String[] allowed = {"tlqns", "0123456789", "0123456789", "01", ",", "tlqns", "0123456789", "0123456789",
            "01", ",;"};
        for (int place = 0; place < allowed.length; place++) {
            for (int code = 32; code <= 126; code++) {
                WorseStile x = new WorseStile();
                Due.write(x, head.substring(0, place));
                x.letter(code);
                boolean right = allowed[place].indexOf(code) >= 0;
                due("fault with " + code + " at " + place, x.fault(), right ? place + 1 : place);
            }
        }
        for (int code = 32; code <= 126; code++) {
            WorseStile x = new WorseStile();
            Due.write(x, head + ";");
            x.letter(code);
            due("fault with people " + code, x.fault(), "1234".indexOf(code) >= 0 ? 11 : 10);
        }
    }

    private static void stile() {
        WorseStile x = new WorseStile();
        due("stile() of nothing", x.stile(), STATE);
        String text = "t991,l230;3";
        for (int i = 0; i < text.length(); i++) {
            due("stile() ahead of letter " + i, x.stile(), STATE);
            due("letter " + i, x.letter(text.charAt(i)), i + 1);
        }
        due("count(11) behind refusals", x.count(11), 0);
        due("stile()", x.stile(), 2);
        due("the page is empty", x.count(10), 0);
        due("read once", x.count(11), 1);
        due("people", x.count(1), 3);
        due("stile() again", x.stile(), STATE);
        due("the stile stays", x.count(0), 2);
        Due.write(x, "t111,t111;11");
        due("stile() with a letter too many", x.stile(), STATE);
        due("the page stays", x.blank(), 12);
        Due.read(x, "t111,t111,t111,t111,t111,t111,t111,t111;4");
        due("eight things", x.count(0), 8);
        due("four people", x.count(1), 4);
        due("read twice", x.count(11), 2);
    }

    private static void stileClearsAll() {
        WorseStile x = Due.with(ALL_KINDS);
        x.carry(0, 0);
        x.round(1, 1);
        x.see(0, 1, true);
        x.image();
        Due.read(x, ALL_KINDS);
        due("carried is gone", x.count(4), 0);
        due("miles are gone", x.count(5), 0);
        due("things are back", x.count(2), 0);
        due("people are back", x.count(3), 0);
        due("what was seen is gone", x.count(9), 0);
        due("the image is gone, of the same text too", x.restore(), STATE);
        due("what he carried last is gone", x.person(0, 2), NONE);
        due("its weight, too", x.person(0, 3), NONE);
        due("he may carry all", x.person(0, 5), 31);
        WorseStile more = Due.with("t991,t991,t991,t991,t991,t991,t991,t991;4");
        for (int person = 0; person < 4; person++) {
            more.round(person, NONE);
            more.carry(person, person);
        }
        Due.read(more, "t120,t341;1");
        int[] fewer = {2, 1, 1, 0, 0, 0, 4, 6, 1, 0, 0, 2};
        for (int what = 0; what <= 11; what++) {
            due("fewer then: count(" + what + ")", more.count(what), fewer[what]);
        }
        due("fewer then: width(0)", more.width(0), 1);
        due("fewer then: thing(2, 0)", more.thing(2, 0), UNKNOWN);
        due("fewer then: person(1, 0)", more.person(1, 0), UNKNOWN);
    }

    private static void thing() {
        WorseStile x = Due.with("s581,n370;1");
        int[] first = {4, 5, 8, 1, 5, 8, 2, 0, 1023, 1};
        int[] second = {3, 3, 7, 0, 3, 7, 0, 1, 1023, 0};
        for (int what = 0; what <= 9; what++) {
            due("thing(0, " + what + ")", x.thing(0, what), first[what]);
            due("thing(1, " + what + ")", x.thing(1, what), second[what]);
        }
        int[] unknown = {-1, 2, 8, LEAST, MOST};
        for (int thing : unknown) {
            due("thing(" + thing + ", 0)", x.thing(thing, 0), UNKNOWN);
            due("thing(" + thing + ", 10)", x.thing(thing, 10), UNKNOWN);
        }
        int[] outside = {-1, 10, LEAST, MOST};
        for (int what : outside) {
            due("thing(0, " + what + ")", x.thing(0, what), OUTSIDE);
        }
        String kinds = "tlqns";
        WorseStile all = Due.with(ALL_KINDS);
        for (int kind = 0; kind < kinds.length(); kind++) {
            due("kind of " + kinds.charAt(kind), all.thing(kind, 0), kind);
        }
    }

    private static void thingInTheLight() {
        WorseStile x = Due.with("l751,t750,t051,q760,n650;1");
        due("a limp shines", x.thing(0, 1), 7);
        due("not in the light", x.thing(0, 4), 0);
        due("it weighs", x.thing(0, 5), 5);
        due("worse than the limp: none", x.thing(0, 6), 0);
        due("the limp is worse than", x.thing(0, 7), 2 + 8 + 16);
        due("worse than the quarrel", x.thing(3, 6), 1 + 2 + 4 + 16);
        due("none is better than the quarrel", x.thing(3, 7), 0);
        due("like in the light: not worse", x.thing(2, 7), 2 + 8 + 16);
    }

    private static void as() {
        WorseStile x = Due.with(ALL_KINDS);
        boolean[][] is = {
            {true, false, false, false, false},
            {true, true, false, false, false},
            {true, false, true, false, false},
            {true, false, false, true, false},
            {true, false, true, false, true}};
        for (int thing = 0; thing < 5; thing++) {
            for (int kind = 0; kind < 5; kind++) {
                due("as(" + thing + ", " + kind + ")", x.as(thing, kind), is[thing][kind] ? thing : NONE);
            }
        }
        due("as(0, -1)", x.as(0, -1), OUTSIDE);
        due("as(0, 5)", x.as(0, 5), OUTSIDE);
        due("as(0, most)", x.as(0, MOST), OUTSIDE);
        due("as(0, least)", x.as(0, LEAST), OUTSIDE);
        due("as(-1, 0)", x.as(-1, 0), UNKNOWN);
        due("as(5, 9)", x.as(5, 9), UNKNOWN);
    }

    private static void person() {
        WorseStile x = Due.with("l930,t820,t731,t990;2");
        int[] fresh = {0, 0, NONE, NONE, 0, 15};
        for (int what = 0; what <= 5; what++) {
            due("person(1, " + what + ")", x.person(1, what), fresh[what]);
        }
        x.carry(1, 0);
        x.round(1, 0);
        int[] then = {0, 1, 0, 3, 9, 0};
        for (int what = 0; what <= 5; what++) {
            due("person(1, " + what + ") then", x.person(1, what), then[what]);
            due("person(0, " + what + ") then", x.person(0, what), fresh[what]);
        }
        x.carry(0, 3);
        due("what may be carried lies on either side", x.person(0, 5), 7);
        due("shine of what was carried last", x.person(0, 2), 9);
        x.polish(3, 1, 1);
        due("it is kept as it was then", x.person(0, 2), 9);
        due("weight of what was carried last", x.person(0, 3), 9);
        due("a polished thing may be carried", x.person(0, 5), 15);
        int[] outside = {-1, 7, 8, 9, 18, LEAST, MOST};
        for (int what : outside) {
            due("person(0, " + what + ")", x.person(0, what), OUTSIDE);
            due("person(2, " + what + ")", x.person(2, what), UNKNOWN);
        }
        due("person(-1, 0)", x.person(-1, 0), UNKNOWN);
        due("person(least, 0)", x.person(LEAST, 0), UNKNOWN);
        due("person(most, 0)", x.person(MOST, 0), UNKNOWN);
    }

    private static void dueRow(WorseStile x, int person, int... row) {
        due("row has", x.person(person, 6), row.length);
        for (int place = 0; place < 8; place++) {
            due("row at " + place, x.person(person, 10 + place), place < row.length ? row[place] : NONE);
        }
    }

    private static void row() {
        dueRow(Due.with("t110,t991,t550,t550,l910;1"), 0, 1, 2, 0, 4);
        dueRow(Due.with("t330,t330;1"), 0, 0);
        dueRow(Due.with("t190,t910;1"), 0, 0);
        dueRow(Due.with("t880,t770,t660,t550,t440,t330,t220,t111;4"), 3, 0, 1, 2, 3, 4, 5, 6, 7);
        dueRow(Due.with("t110,t220,t330,t440,t550,t660,t770,t881;1"), 0, 7, 6, 5, 4, 3, 2, 1, 0);
        // 0 ahead of 3 makes two; 1, 2, 3 make three.
        dueRow(Due.with("t910,t590,t390,t110;1"), 0, 1, 2, 3);
        // Two rows of like length: the first thing decides ahead of the second.
        dueRow(Due.with("t880,t770,t070,t700;1"), 0, 0, 1, 2);
        WorseStile x = Due.with("t550,t440,t330,t900;2");
        x.carry(0, 0);
        dueRow(x, 0, 1, 2);
        dueRow(x, 1, 0, 1, 2);
        x.carry(1, 2);
        dueRow(x, 1);
        x.polish(0, 0, 0);
        dueRow(x, 1, 0);
        x.forgive(1);
        dueRow(x, 1, 1, 2, 0);
    }

    private static void carry() {
        WorseStile x = Due.with("t880,l760,t661,q080;2");
        due("carry(0, 0)", x.carry(0, 0), 1);
        due("the thing is over", x.thing(0, 3), 1);
        due("he is over", x.person(0, 0), 1);
        due("the other is not", x.person(1, 0), 0);
        due("as good as the last", x.carry(0, 0), STATE);
        due("worse, and there", x.carry(0, 2), 2);
        due("he is back", x.person(0, 0), 0);
        due("the thing came, too", x.thing(2, 3), 0);
        due("a limp is as in the light", x.carry(0, 1), 3);
        due("he carried 0 in the light", x.person(0, 2), 0);
        due("and its weight", x.person(0, 3), 6);
        due("no miles", x.person(0, 4), 0);
        due("the limp still shines", x.thing(1, 1), 7);
        due("carry(1, 3)", x.carry(1, 3), 1);
        due("carried by all", x.count(4), 4);
    }

    private static void carryWears() {
        WorseStile x = Due.with("t990,l990,q990,n990,s990;1");
        int[][] worn = {{9, 9}, {9, 9}, {8, 9}, {4, 4}, {8, 8}};
        for (int thing = 0; thing < 5; thing++) {
            x.forgive(0);
            if (x.person(0, 0) == 1) {
                x.cross(0);
            }
            due("carry " + thing, x.carry(0, thing), thing + 1);
            due("it shines", x.thing(thing, 1), worn[thing][0]);
            due("it weighs", x.thing(thing, 2), worn[thing][1]);
            due("last, ahead of going over", x.person(0, 2), thing == 1 ? 0 : 9);
            due("its weight ahead of going over", x.person(0, 3), 9);
        }
        WorseStile dull = Due.with("q050,s000,n110,s020,s300;4");
        dull.carry(0, 0);
        due("a quarrel at 0", dull.thing(0, 1), 0);
        due("a quarrel's weight", dull.thing(0, 2), 5);
        dull.carry(1, 1);
        due("a sulk at 0", dull.thing(1, 1), 0);
        due("a sulk's weight at 0", dull.thing(1, 2), 0);
        dull.carry(2, 2);
        due("news at 1", dull.thing(2, 1), 0);
        due("news' weight at 1", dull.thing(2, 2), 0);
        dull.carry(3, 3);
        due("a sulk's weight", dull.thing(3, 2), 1);
        WorseStile one = Due.with("q190,s110;2");
        one.carry(0, 0);
        one.carry(1, 1);
        due("a quarrel at 1", one.thing(0, 1), 0);
        due("a sulk at 1", one.thing(1, 1), 0);
        due("a sulk's weight at 1", one.thing(1, 2), 0);
        WorseStile news = Due.with("n740,t000;1");
        due("news out", news.carry(0, 0), 1);
        due("news back", news.carry(0, 0), 2);
        due("half of half", news.thing(0, 1), 1);
        due("half of half weighs", news.thing(0, 2), 1);
    }

    private static void carryRefused() {
        WorseStile x = Due.with("t551,t000,t000;2");
        due("no such person", x.carry(2, 0), UNKNOWN);
        due("person -1", x.carry(-1, 0), UNKNOWN);
        due("no such thing", x.carry(0, 3), UNKNOWN);
        due("thing NONE", x.carry(0, NONE), UNKNOWN);
        due("most", x.carry(MOST, MOST), UNKNOWN);
        due("least", x.carry(0, LEAST), UNKNOWN);
        due("not on his side", x.carry(0, 0), STATE);
        due("nothing has changed", x.count(3), 0);
        for (int n = 1; n <= 99; n++) {
            due("carry the " + n, x.carry(0, 1), n);
            due("forgive the " + n, x.forgive(0), n);
        }
        due("full at 99", x.carry(0, 1), FULL);
        due("state ahead of full", x.carry(0, 2), STATE);
        due("unknown ahead of full", x.carry(0, 9), UNKNOWN);
        due("the other one is not full", x.carry(1, 2), 1);
        due("still 99", x.person(0, 1), 99);
        due("still forgiven", x.person(0, 2), NONE);
        due("still there", x.thing(1, 3), 1);
    }

    private static void cross() {
        WorseStile x = Due.with("t990,t111;2");
        due("cross(1)", x.cross(1), 1);
        due("one is over", x.count(3), 1);
        due("no thing is", x.count(2), 1);
        due("cross(1) back", x.cross(1), 0);
        x.carry(0, 0);
        due("cross keeps the last", x.cross(0), 0);
        due("the last", x.person(0, 2), 9);
        due("how many he carried", x.person(0, 1), 1);
        due("no miles", x.count(5), 0);
        due("cross(2)", x.cross(2), UNKNOWN);
        due("cross(-1)", x.cross(-1), UNKNOWN);
        due("cross(least)", x.cross(LEAST), UNKNOWN);
        due("cross(most)", x.cross(MOST), UNKNOWN);
    }

    private static void round() {
        WorseStile x = Due.with("n990,t111,s550;2");
        x.carry(0, 2);
        due("round back with it", x.round(0, 2), 9);
        due("it stays as it is", x.thing(2, 1), 4);
        due("its weight, too", x.thing(2, 2), 4);
        due("it is back", x.thing(2, 3), 0);
        due("what he carried last stays", x.person(0, 2), 5);
        due("how many he carried stays", x.person(0, 1), 1);
        due("round with what is better", x.round(0, 0), 18);
        due("news stays as it is", x.thing(0, 1), 9);
        due("round with nothing", x.round(0, NONE), 27);
        due("he is back", x.person(0, 0), 0);
        due("the news is not", x.thing(0, 3), 1);
        due("not on his side", x.round(0, 0), STATE);
        due("no such person", x.round(2, NONE), UNKNOWN);
        due("person -1", x.round(-1, 0), UNKNOWN);
        due("no such thing", x.round(0, 3), UNKNOWN);
        due("thing -2", x.round(0, -2), UNKNOWN);
        due("least", x.round(LEAST, LEAST), UNKNOWN);
        due("most", x.round(0, MOST), UNKNOWN);
        for (int miles = 36; miles <= 900; miles += 9) {
            due("round to " + miles, x.round(0, NONE), miles);
        }
        int side = x.person(0, 0);
        due("full", x.round(0, NONE), FULL);
        due("full, with a thing", x.round(0, side == 0 ? 2 : 0), FULL);
        due("state ahead of full", x.round(0, side == 0 ? 0 : 2), STATE);
        due("unknown ahead of full", x.round(0, 7), UNKNOWN);
        due("he stays", x.person(0, 0), side);
        due("900", x.person(0, 4), 900);
        due("the other one is not full", x.round(1, NONE), 9);
        due("miles of all", x.count(5), 909);
    }

    private static void polish() {
        WorseStile x = Due.with("t470,l331;1");
        due("polish(0, 9, 0)", x.polish(0, 9, 0), 4);
        due("it shines", x.thing(0, 1), 9);
        due("it weighs", x.thing(0, 2), 0);
        due("polish(0, 0, 9)", x.polish(0, 0, 9), 9);
        due("a limp shone", x.polish(1, 5, 6), 3);
        due("a limp shines", x.thing(1, 1), 5);
        due("not in the light", x.thing(1, 4), 0);
        due("a limp weighs", x.thing(1, 5), 6);
        due("it stays on its side", x.thing(1, 3), 1);
        int[][] outside = {{-1, 0}, {10, 0}, {0, -1}, {0, 10}, {LEAST, 0}, {MOST, 0}, {0, LEAST}, {0, MOST}};
        for (int[] digits : outside) {
            due("polish(0, " + digits[0] + ", " + digits[1] + ")", x.polish(0, digits[0], digits[1]), OUTSIDE);
            due("unknown first", x.polish(2, digits[0], digits[1]), UNKNOWN);
        }
        due("nothing has changed", x.thing(0, 1), 0);
        due("nor that", x.thing(0, 2), 9);
        due("polish(-1, 1, 1)", x.polish(-1, 1, 1), UNKNOWN);
    }

    private static void forgive() {
        WorseStile x = Due.with("t220,t990;2");
        due("nothing yet", x.forgive(0), STATE);
        x.carry(0, 0);
        due("forgive(0)", x.forgive(0), 1);
        due("the shine is forgotten", x.person(0, 2), NONE);
        due("the weight is forgotten", x.person(0, 3), NONE);
        due("how many he carried is not", x.person(0, 1), 1);
        due("nor where he is", x.person(0, 0), 1);
        due("he may carry all", x.person(0, 5), 3);
        due("forgiven already", x.forgive(0), STATE);
        due("no such person", x.forgive(2), UNKNOWN);
        due("person -1", x.forgive(-1), UNKNOWN);
        due("person most", x.forgive(MOST), UNKNOWN);
        WorseStile zero = Due.with("t000,l000;1");
        zero.carry(0, 0);
        due("0 and 0 is something", zero.forgive(0), 1);
    }

    private static void worse() {
        WorseStile x = Due.with("t550,t540,t450,l950,t641,t550;1");
        int[][] worse = {
            {0, 0, 0, 0, 0, 0},
            {1, 0, 0, 0, 1, 1},
            {1, 0, 0, 0, 0, 1},
            {1, 0, 1, 0, 0, 1},
            {0, 0, 0, 0, 0, 0},
            {0, 0, 0, 0, 0, 0}};
        for (int a = 0; a < 6; a++) {
            for (int b = 0; b < 6; b++) {
                due("worse(" + a + ", " + b + ")", x.worse(a, b), worse[a][b]);
            }
        }
        int[] unknown = {-1, 6, LEAST, MOST};
        for (int i : unknown) {
            due("worse(" + i + ", 0)", x.worse(i, 0), UNKNOWN);
            due("worse(0, " + i + ")", x.worse(0, i), UNKNOWN);
        }
    }

    private static void dueWidth(String text, int many, int bits) {
        WorseStile x = Due.with(text);
        due("width(0) of " + text, x.width(0), many);
        due("width(1) of " + text, x.width(1), bits);
    }

    private static void width() {
        dueWidth("t330,t331;1", 2, 3);
        dueWidth("t330,t440;1", 1, 1);
        dueWidth("t440,t330,t220;1", 1, 1);
        dueWidth("t280,t460,t640,t820,t111;1", 4, 15);
        dueWidth("l930,l820,l710;1", 1, 1);
        // 1 and 2 are apart, and so are 2 and 3: of like ones the least bits.
        dueWidth("t990,t370,t730,t360;1", 2, 6);
        dueWidth("t111,t111,t111,t111,t111,t111,t111,t111;1", 8, 255);
        dueWidth("t190,t280,t370,t460,t550,t640,t730,t820;1", 8, 255);
        WorseStile x = Due.with("t990,t111;1");
        int[] outside = {-1, 2, LEAST, MOST};
        for (int what : outside) {
            due("width(" + what + ")", x.width(what), OUTSIDE);
        }
        x.polish(0, 0, 9);
        due("as they are now", x.width(0), 2);
    }

    private static void dueParts(WorseStile x, int many, int... by) {
        due("parts(0)", x.parts(0), many);
        for (int thing = 0; thing < 8; thing++) {
            due("parts(1" + thing + ")", x.parts(10 + thing), thing < by.length ? by[thing] : NONE);
        }
    }

    private static void parts() {
        dueParts(Due.with("t990,t111;1"), 1, 0, 0);
        dueParts(Due.with("t110,t111;1"), 2, 0, 1);
        dueParts(Due.with("t190,t910,t801,t080;1"), 2, 0, 1, 1, 0);
        // 2 could follow either; the lower number first.
        dueParts(Due.with("t190,t910,t000;1"), 2, 0, 1, 0);
        // Taking the lower number each time would need three: 1 must not go with 0.
        dueParts(Due.with("t550,t510,t150,t910;1"), 2, 0, 1, 0, 1);
        dueParts(Due.with("t880,t440,t480,t840,t100,t010;1"), 2, 0, 0, 0, 1, 0, 1);
        dueParts(Due.with("t111,t111,t111,t111,t111,t111,t111,t111;1"), 8, 0, 1, 2, 3, 4, 5, 6, 7);
        WorseStile x = Due.with("t990,t111;1");
        int[] outside = {-1, 1, 9, 18, LEAST, MOST};
        for (int what : outside) {
            due("parts(" + what + ")", x.parts(what), OUTSIDE);
        }
        x.polish(0, 1, 1);
        dueParts(x, 2, 0, 1);
        x.carry(0, 1);
        dueParts(x, 2, 0, 1);
    }

    private static void dueHope(String text, int days, int above, int below) {
        WorseStile x = Due.with(text);
        due("hope(" + days + ", 0) of " + text, x.hope(days, 0), above);
        due("hope(" + days + ", 1) of " + text, x.hope(days, 1), below);
    }

    private static void hope() {
        // One day: any can be carried.
        dueHope("t990,t111;1", 1, 1, 1);
        dueHope("t190,t911,t220;1", 1, 1, 1);
        // Two days, 0 better than 1: 2 only by 0 and then 1, a quarter.
        dueHope("t990,t111;1", 2, 5, 4);
        // Three: by 0 and then 1 in one of two days, or 1 let be on the first day for it.
        dueHope("t990,t111;1", 3, 3, 2);
        dueHope("t550,t551;1", 4, 1, 1);
        dueHope("t990,t660,t330;1", 2, 4, 3);
        WorseStile x = Due.with("t990,t111;1");
        int[][] outside = {{0, 0}, {5, 0}, {1, -1}, {1, 2}, {LEAST, 0}, {MOST, 0}, {4, LEAST}, {4, MOST}};
        for (int[] asked : outside) {
            due("hope(" + asked[0] + ", " + asked[1] + ")", x.hope(asked[0], asked[1]), OUTSIDE);
        }
        x.carry(0, 1);
        due("whatever was carried", x.hope(2, 0), 5);
        x.polish(0, 1, 1);
        due("as they are now", x.hope(2, 0), 1);
    }

    private static void game() {
        WorseStile x = Due.with("t990,t550,t070,t700;1");
        due("game(0)", x.game(0), 1);
        due("game(1)", x.game(1), 1);
        x.polish(3, 4, 4);
        due("game(0) then", x.game(0), 1);
        due("game(1) then", x.game(1), 2);
        x.polish(2, 5, 5);
        due("game(1) at last", x.game(1), 3);
        WorseStile limp = Due.with("t110,l911;1");
        due("a limp in the light", limp.game(1), 1);
        due("like ones", Due.with("t330,t330;1").game(1), 0);
        int[] outside = {-1, 2, LEAST, MOST};
        for (int what : outside) {
            due("game(" + what + ")", x.game(what), OUTSIDE);
        }
    }

    private static void see() {
        WorseStile x = Due.with("t550,t460,l331,t740;1");
        due("see(0, 1, true)", x.see(0, 1, true), 1);
        due("it shines up to 4", x.thing(0, 8), 31);
        due("not of the other one", x.thing(1, 8), 1023);
        due("see(0, 2, false)", x.see(0, 2, false), 2);
        due("still up to 4", x.thing(0, 8), 31);
        due("see(2, 0, true)", x.see(2, 0, true), 3);
        due("a limp can shine as it will", x.thing(2, 8), 1023);
        due("see(2, 0, false)", x.see(2, 0, false), 4);
        due("or not at all", x.thing(2, 8), 0);
        x.polish(1, 2, 6);
        due("all else as it is when asked", x.thing(0, 8), 7);
        x.polish(0, 9, 7);
        due("its own weight as it is", x.thing(0, 8), 0);
        x.polish(0, 9, 6);
        due("of like weight, less shine", x.thing(0, 8), 3);
        due("the same one", x.see(1, 1, true), UNKNOWN);
        int[] unknown = {-1, 4, LEAST, MOST};
        for (int i : unknown) {
            due("see(" + i + ", 0)", x.see(i, 0, true), UNKNOWN);
            due("see(0, " + i + ")", x.see(0, i, true), UNKNOWN);
        }
        for (int n = 5; n <= 8; n++) {
            due("see the " + n, x.see(3, 0, false), n);
        }
        due("see the 9", x.see(3, 1, false), FULL);
        due("unknown ahead of full", x.see(3, 3, false), UNKNOWN);
        due("eight are seen", x.count(9), 8);
        due("not worse", x.thing(3, 8), 0);
        x.polish(0, 5, 3);
        due("not worse than a lighter one", x.thing(3, 8), 1023);
    }

    private static void hold() {
        // With weight 4 it is worse than 1 up to 1, than 2 up to 4, than 3 never.
        WorseStile x = Due.with("t040,t150,t450,t930;1");
        due("the middle", x.thing(0, 9), 2);
        x.polish(3, 5, 5);
        due("of like ones the least", x.thing(0, 9), 2);
        x.polish(1, 5, 5);
        due("the least of these", x.thing(0, 9), 2);
        x.polish(1, 4, 9);
        due("like ones: the least", x.thing(0, 9), 1);
        x.see(0, 1, true);
        due("0 to 4 are left", x.thing(0, 8), 31);
        x.polish(2, 2, 9);
        due("0 to 2, or 3 and 4", x.thing(0, 9), 2);
        x.see(0, 2, false);
        due("3 and 4 are left", x.thing(0, 8), 24);
        due("none parts them", x.thing(0, 9), 1);
        x.polish(3, 3, 4);
        due("against like weight", x.thing(0, 9), 1);
        x.polish(3, 4, 4);
        due("it parts them", x.thing(0, 9), 3);
        x.see(0, 3, true);
        due("3 is left", x.thing(0, 8), 8);
        due("one is left: the least", x.thing(0, 9), 1);
        x.see(0, 1, false);
        due("none is left", x.thing(0, 8), 0);
        due("none to hold against", x.thing(0, 9), NONE);
        due("what is SEEN of another one does not matter", x.thing(1, 9), 2);
        WorseStile high = Due.with("t000,t990,t900,t991;1");
        due("9 counts, too", high.thing(0, 9), 2);
        high.polish(1, 9, 0);
        due("of like ones the first", high.thing(0, 9), 1);
        high.polish(1, 1, 0);
        due("one of ten parted off", high.thing(0, 9), 1);
        high.polish(1, 0, 9);
        due("of like shine, less weight", high.thing(0, 9), 1);
        high.see(0, 1, true);
        due("only 0 is left", high.thing(0, 8), 1);
        WorseStile two = Due.with("t330,t990;1");
        due("not against itself", two.thing(0, 9), 1);
        due("nor this one", two.thing(1, 9), 0);
    }

    private static void forget() {
        WorseStile x = Due.with("t550,t460;1");
        due("nothing", x.forget(), 0);
        x.see(0, 1, true);
        x.see(1, 0, true);
        due("two", x.forget(), 2);
        due("none then", x.count(9), 0);
        due("all again", x.thing(0, 8), 1023);
        due("nothing again", x.forget(), 0);
        due("see again", x.see(0, 1, false), 1);
        due("what is seen then", x.thing(0, 8), 1023 & ~31);
    }

    private static int nextSeed(long seed) {
        return (int) ((1103515245L * seed + 12345L) % 2147483648L);
    }

    private static void days() {
        // One person, like things: the first is carried, and no other one.
        WorseStile x = Due.with("t330,t331;1");
        due("days(60, 5, 0)", x.days(60, 5, 0), 1);
        due("days(60, 5, 1)", x.days(60, 5, 1), 59 * 9);
        int seed = 5;
        for (int n = 1; n <= 60; n++) {
            seed = nextSeed(nextSeed(seed));
            due("days(" + n + ", 5, 2)", x.days(n, 5, 2), seed);
        }
        due("seed 0", x.days(1, 0, 2), nextSeed(12345));
        due("seed most", x.days(1, MOST, 2), nextSeed(nextSeed(2147483647L)));
        due("nothing has changed", x.count(4) + x.count(5) + x.count(3), 0);
        int[][] outside = {{0, 0, 0}, {61, 0, 0}, {-1, 0, 0}, {1, -1, 0}, {1, LEAST, 0}, {1, 0, -1}, {1, 0, 3},
            {MOST, 0, 0}, {LEAST, 0, 0}, {1, 0, MOST}, {1, 0, LEAST}};
        for (int[] asked : outside) {
            due("days outside", x.days(asked[0], asked[1], asked[2]), OUTSIDE);
        }
    }

    // All things are alike, so each of the people carries the first one he takes, and goes round with the others.
    private static void daysDrawPeople() {
        WorseStile x = Due.with("t331,t330,t331,t330;4");
        for (int start = 0; start < 2000000000; start += 52345678) {
            int met = 0;
            int drawn = start;
            for (int n = 1; n <= 12; n++) {
                drawn = nextSeed(drawn);
                met |= 1 << (drawn / 65536 % 4);
                drawn = nextSeed(drawn);
                due("days(" + n + ", " + start + ", 0)", x.days(n, start, 0), Integer.bitCount(met));
                due("days(" + n + ", " + start + ", 1)", x.days(n, start, 1), 9 * (n - Integer.bitCount(met)));
            }
        }
    }

    // Each thing is worse than all ahead, so he carries what was never passed yet.
    private static void daysDrawThings() {
        WorseStile x = Due.with("t880,t771,t660,t551,t440,t331,t220,t111;1");
        for (int start = 0; start < 60; start++) {
            int drawn = start * 999;
            int often = 0;
            int last = -1;
            for (int day = 0; day < 10; day++) {
                drawn = nextSeed(nextSeed(drawn));
                int taken = drawn / 65536 % 8;
                if (taken > last) {
                    last = taken;
                    often++;
                }
            }
            due("days(10, " + start * 999 + ", 0)", x.days(10, start * 999, 0), often);
        }
    }

    private static void daysFromWhatIs() {
        WorseStile x = Due.with("t330,t331;1");
        x.carry(0, 0);
        due("he carried as good a thing already", x.days(30, 5, 0), 0);
        due("he goes round each day", x.days(30, 5, 1), 270);
        x.forgive(0);
        due("forgiven", x.days(30, 5, 0), 1);
        // A quarrel wears each time: five times one less, and once at nothing is as good.
        WorseStile q = Due.with("q300,q301;1");
        q.polish(1, 9, 9);
        due("the quarrel runs down", q.days(60, 1, 0) >= 4 ? 1 : 0, 1);
        due("and stays as it is", q.thing(0, 1), 3);
        WorseStile tired = Due.with("t000,t000;1");
        for (int n = 0; n < 100; n++) {
            tired.round(0, NONE);
        }
        due("days are not full", tired.days(60, 3, 1), 59 * 9);
    }

    private static void image() {
        WorseStile x = new WorseStile();
        due("no stile", x.image(), STATE);
        Due.read(x, ALL_KINDS);
        due("image()", x.image(), 0);
        x.carry(0, 0);
        x.carry(1, 1);
        due("image() of two", x.image(), 2);
        x.carry(1, 1);
        x.cross(0);
        due("restore() of the latest", x.restore(), 2);
    }

    private static void restore() {
        WorseStile x = Due.with(ALL_KINDS);
        due("none was kept", x.restore(), STATE);
        x.carry(0, 4);
        x.round(1, 3);
        x.see(0, 1, true);
        x.polish(2, 1, 2);
        due("image()", x.image(), 1);
        Due.write(x, "t1");
        long kept = x.digest();
        x.forgive(0);
        x.carry(0, 4);
        x.carry(1, 3);
        x.cross(1);
        x.round(0, NONE);
        x.forget();
        x.see(1, 2, false);
        x.see(1, 3, false);
        x.polish(0, 0, 0);
        due("other now", x.digest() == kept ? 1 : 0, 0);
        due("restore()", x.restore(), 1);
        due("all as it was kept", x.digest(), kept);
        due("what is seen, too", x.count(9), 1);
        dueSeenKept();
        x.carry(0, 4);
        due("restore() again", x.restore(), 1);
        due("all as it was kept again", x.digest(), kept);
        due("the page is not kept", x.blank(), 2);
        due("restore() keeps the page", x.restore(), 1);
        due("no letters", x.count(10), 0);
        Due.write(x, "t1");
        due("a page that is none", x.stile(), STATE);
        due("the image stays then", x.restore(), 1);
        x.blank();
        Due.read(x, ALL_KINDS);
        due("a stile was read since", x.restore(), STATE);
        due("read twice", x.count(11), 2);
        due("image() of this one", x.image(), 0);
        due("restore() of this one", x.restore(), 0);
        due("restore() does not read", x.count(11), 2);
    }

    private static void dueSeenKept() {
        WorseStile x = Due.with("t550,t460,t650,t740;1");
        x.see(1, 2, true);
        x.see(0, 3, true);
        x.image();
        int[] could = {x.thing(0, 8), x.thing(1, 8)};
        x.forget();
        x.see(2, 0, true);
        x.see(3, 1, false);
        x.restore();
        due("the first was seen of 1", x.thing(1, 8), could[1]);
        due("the other of 0", x.thing(0, 8), could[0]);
        due("none was of 2", x.thing(2, 8), 1023);
    }

    private static void count() {
        WorseStile x = Due.with("t991,l880,q081,n650;3");
        x.carry(0, 1);
        x.carry(1, 3);
        x.forgive(1);
        x.cross(2);
        x.round(2, NONE);
        x.round(2, NONE);
        x.see(0, 1, true);
        Due.write(x, "abc");
        // Light: 99, 08, 08, 32. Worse: three than 0.
        int[] due = {4, 3, 4, 3, 2, 18, 9 + 8 + 0 + 3, 9 + 8 + 8 + 2, 3, 1, 3, 1};
        for (int what = 0; what <= 11; what++) {
            due("count(" + what + ")", x.count(what), due[what]);
        }
        x.carry(2, 2);
        due("things on side 1", x.count(2), 3);
        due("people on side 1", x.count(3), 2);
        x.polish(2, 0, 1);
        due("twos", x.count(8), 5);
        int[] outside = {-1, 12, LEAST, MOST};
        for (int what : outside) {
            due("count(" + what + ")", x.count(what), OUTSIDE);
        }
    }

    private static long mix(long h, long told) {
        return 31 * h + told;
    }

    private static long digestOf(WorseStile x, String page) {
        long h = 1181;
        for (int thing = 0; thing < x.count(0); thing++) {
            for (int what = 0; what <= 9; what++) {
                h = mix(h, x.thing(thing, what));
            }
        }
        for (int person = 0; person < x.count(1); person++) {
            for (int what = 0; what <= 17; what++) {
                h = what > 6 && what < 10 ? h : mix(h, x.person(person, what));
            }
        }
        if (x.count(0) > 0) {
            h = mix(mix(h, x.width(0)), x.width(1));
            h = mix(h, x.parts(0));
            for (int what = 10; what <= 17; what++) {
                h = mix(h, x.parts(what));
            }
            h = mix(mix(h, x.hope(3, 0)), x.hope(3, 1));
            h = mix(mix(h, x.game(0)), x.game(1));
        }
        for (int i = 0; i < page.length(); i++) {
            h = mix(h, page.charAt(i));
        }
        for (int what = 0; what <= 11; what++) {
            h = mix(h, x.count(what));
        }
        return h;
    }

    private static void digest() {
        WorseStile x = new WorseStile();
        Due.write(x, "z ~");
        due("digest with a page alone", x.digest(), digestOf(x, "z ~"));
        x.blank();
        Due.read(x, "t880,n661,q570,s430,l910,t090;3");
        due("digest of a stile", x.digest(), digestOf(x, ""));
        x.carry(0, 0);
        x.round(1, 3);
        x.see(0, 2, true);
        x.see(5, 1, false);
        x.carry(1, 3);
        Due.write(x, "q");
        due("digest then", x.digest(), digestOf(x, "q"));
        due("digest changes nothing", x.digest(), digestOf(x, "q"));
        x.cross(2);
        due("digest behind a crossing", x.digest(), digestOf(x, "q"));
    }

    // All rows of the program are as full as they can be.
    private static void digestOfMost() {
        WorseStile x = Due.with("t990,l881,q770,n661,s550,t441,l330,q221;4");
        for (int n = 0; n < 8; n++) {
            x.see(n, 7 - n, n % 2 == 0);
        }
        Due.write(x, "t111,t111,t111,t111,t111,t111,t111,t111;4;;;");
        due("a page of 44", x.count(10), 44);
        x.carry(3, 0);
        x.image();
        String page = "t111,t111,t111,t111,t111,t111,t111,t111;4;;;";
        due("digest of the most", x.digest(), digestOf(x, page));
        x.carry(2, 2);
        x.restore();
        due("digest of the most, restored", x.digest(), digestOf(x, page));
        due("fault() of 44", x.fault(), 41);
        due("hope of the most", x.hope(4, 1) > 0 ? 1 : 0, 1);
        due("days of the most", x.days(60, 1, 0) + x.days(60, 1, 1) / 9, 60);
    }

    private static void noStile() {
        WorseStile x = new WorseStile();
        due("thing(0, 0)", x.thing(0, 0), UNKNOWN);
        due("as(0, 0)", x.as(0, 0), UNKNOWN);
        due("person(0, 0)", x.person(0, 0), UNKNOWN);
        due("carry(0, 0)", x.carry(0, 0), UNKNOWN);
        due("cross(0)", x.cross(0), UNKNOWN);
        due("round(0, NONE)", x.round(0, NONE), UNKNOWN);
        due("polish(0, 0, 0)", x.polish(0, 0, 0), UNKNOWN);
        due("forgive(0)", x.forgive(0), UNKNOWN);
        due("worse(0, 0)", x.worse(0, 0), UNKNOWN);
        due("see(0, 1, true)", x.see(0, 1, true), UNKNOWN);
        due("width(0)", x.width(0), STATE);
        due("width(2)", x.width(2), OUTSIDE);
        due("parts(0)", x.parts(0), STATE);
        due("parts(10)", x.parts(10), STATE);
        due("parts(1)", x.parts(1), OUTSIDE);
        due("hope(1, 0)", x.hope(1, 0), STATE);
        due("hope(5, 0)", x.hope(5, 0), OUTSIDE);
        due("hope(1, 2)", x.hope(1, 2), OUTSIDE);
        due("game(0)", x.game(0), STATE);
        due("game(2)", x.game(2), OUTSIDE);
        due("days(1, 0, 0)", x.days(1, 0, 0), STATE);
        due("days(0, 0, 0)", x.days(0, 0, 0), OUTSIDE);
        due("days(1, -1, 0)", x.days(1, -1, 0), OUTSIDE);
        due("days(1, 0, 3)", x.days(1, 0, 3), OUTSIDE);
        due("image()", x.image(), STATE);
        due("restore()", x.restore(), STATE);
        due("count(12)", x.count(12), OUTSIDE);
    }
}
