import java.util.function.ToLongFunction;

/**
 * The document's sentences that name a boundary, in its order: the last that is taken, the first that is refused,
 * which refusal comes first, and that a refused call changes nothing. Each stands above the test of its own.
 */
public final class EdgeTests {
    private static final int NONE = -1, UNKNOWN = -101, OUTSIDE = -102, STATE = -103, FULL = -104;
    private static final int LEAST = Integer.MIN_VALUE, MOST = Integer.MAX_VALUE;
    private static final String KINDS = "tlqns";
    private static final String EIGHT = "t990,l881,q770,n661,s550,t441,l330,q221;4";

    public static void main(String[] args) {
        theStileAsAText();
        terms();
        whatWouldBe();
        whatIsSeen();
        thePage();
        thingsAndPeople();
        whatIsDone();
        refusalsOfWhatWouldBe();
        imageAndRestore();
        refusalsOfANewObject();
        refusalsWhenAllIsFull();
        Due.end("EdgeTests");
    }

    private static void due(String call, long got, long want) {
        Due.due(call, got, want);
    }

    private static void refuses(WorseStile x, String call, long want, ToLongFunction<WorseStile> asked) {
        long before = x.digest();
        due(call, asked.applyAsLong(x), want);
        due(call + " changes nothing", x.digest(), before);
    }

    // Takes the page's last letter for one that fits there, or not.
    private static void lastFits(String text, boolean fits) {
        WorseStile x = new WorseStile();
        Due.write(x, text);
        due("fault() of " + text, x.fault(), fits ? text.length() : text.length() - 1);
    }

    private static String things(int many) {
        StringBuilder text = new StringBuilder();
        for (int i = 0; i < many; i++) {
            text.append(i == 0 ? "" : ",").append("t110");
        }
        return text.toString();
    }

    // ---- What it is

    private static void theStileAsAText() {
        twoToEightThings();
        commasBetween();
        eachALetterTheKind();
        shinesZeroToNine();
        weightZeroToNine();
        sideZeroOrOne();
        peopleOneToFour();
        fiveHundredAndTwelveCalls();
    }

    // "two to eight THINGS"
    private static void twoToEightThings() {
        lastFits(things(1) + ";", false);
        for (int many = 2; many <= 8; many++) {
            lastFits(things(many) + ";", true);
            WorseStile x = Due.with(things(many) + ";1");
            due(many + " things", x.count(0), many);
            due("the last of " + many, x.thing(many - 1, 0), 0);
            due("none behind " + many, x.thing(many, 0), UNKNOWN);
        }
        lastFits(things(7) + ",", true);
        lastFits(things(8) + ",", false);
        WorseStile one = new WorseStile();
        Due.write(one, things(1) + ";1");
        refuses(one, "stile() of one thing", STATE, x -> x.stile());
        WorseStile nine = new WorseStile();
        Due.write(nine, things(9).substring(0, 42) + ";1");
        due("fault() of nine things", nine.fault(), 39);
        refuses(nine, "stile() of nine things", STATE, x -> x.stile());
    }

    // "with "," between"
    private static void commasBetween() {
        lastFits(",", false);
        lastFits("t110+", false);
        lastFits("t110,", true);
        lastFits("t110-", false);
        lastFits("t110,,", false);
        lastFits("t110,t110:", false);
        lastFits("t110,t110<", false);
        lastFits("t110 ", false);
        lastFits("t110t", false);
        WorseStile open = new WorseStile();
        Due.write(open, "t110,t110,;1");
        due("fault() of a comma behind the last", open.fault(), 10);
        refuses(open, "stile() of a comma behind the last", STATE, x -> x.stile());
    }

    // "each a letter, the KIND"; "KINDS are told by the letter: 0 THING t, 1 LIMP l, 2 QUARREL q, 3 NEWS n, 4 SULK s"
    private static void eachALetterTheKind() {
        for (int code = 32; code <= 126; code++) {
            boolean isKind = KINDS.indexOf(code) >= 0;
            lastFits("" + (char) code, isKind);
            lastFits(things(7) + "," + (char) code, isKind);
        }
        for (int kind = 0; kind < 5; kind++) {
            WorseStile x = Due.with("t110," + KINDS.charAt(kind) + "110;1");
            due("the kind of " + KINDS.charAt(kind), x.thing(1, 0), kind);
        }
    }

    // "how it SHINES (0 to 9)"
    private static void shinesZeroToNine() {
        String last = things(7) + ",t";
        lastFits(last + '/', false);
        lastFits(last + '0', true);
        lastFits(last + '9', true);
        lastFits(last + ':', false);
        for (int digit = 0; digit <= 9; digit++) {
            WorseStile x = Due.with(last + digit + "50;1");
            due("shines " + digit, x.thing(7, 1), digit);
            due("and weighs", x.thing(7, 2), 5);
        }
    }

    // "its WEIGHT (0 to 9)"
    private static void weightZeroToNine() {
        String last = things(7) + ",t5";
        lastFits(last + '/', false);
        lastFits(last + '0', true);
        lastFits(last + '9', true);
        lastFits(last + ':', false);
        for (int digit = 0; digit <= 9; digit++) {
            WorseStile x = Due.with(last + digit + "0;1");
            due("weighs " + digit, x.thing(7, 2), digit);
            due("and shines", x.thing(7, 1), 5);
        }
    }

    // "its SIDE (0 or 1)"
    private static void sideZeroOrOne() {
        String last = things(7) + ",t55";
        lastFits(last + '/', false);
        lastFits(last + '0', true);
        lastFits(last + '1', true);
        lastFits(last + '2', false);
        lastFits(last + '9', false);
        due("on side 0", Due.with(last + "0;1").thing(7, 3), 0);
        due("on side 1", Due.with(last + "1;1").thing(7, 3), 1);
    }

    // "then ";" and a digit, how many PEOPLE there are (1 to 4, numbered from 0)"
    private static void peopleOneToFour() {
        String[] heads = {things(2) + ';', things(8) + ';'};
        for (String head : heads) {
            lastFits(head + '/', false);
            lastFits(head + '0', false);
            lastFits(head + '5', false);
            lastFits(head + '9', false);
            lastFits(head + ':', false);
            for (int many = 1; many <= 4; many++) {
                lastFits(head + many, true);
                WorseStile x = Due.with(head + many);
                due("people", x.count(1), many);
                due("the last of them", x.person(many - 1, 0), 0);
                due("none behind", x.person(many, 0), UNKNOWN);
            }
        }
        WorseStile none = new WorseStile();
        Due.write(none, things(2) + ";0");
        refuses(none, "stile() of no people", STATE, x -> x.stile());
        WorseStile five = new WorseStile();
        Due.write(five, things(2) + ";5");
        refuses(five, "stile() of five people", STATE, x -> x.stile());
    }

    // "An object is used for at most 512 calls after it has been made"
    private static void fiveHundredAndTwelveCalls() {
        WorseStile x = Due.with("t110,t110;1");
        // Eleven letters and stile() are twelve calls.
        for (int call = 13; call <= 512; call++) {
            due("cross as call " + call, x.cross(0), call % 2);
        }
    }

    // ---- Terms

    private static void terms() {
        allPeopleOnSideZero();
        aSulkIsAQuarrelToo();
        aLimpShinesNothingInTheLight();
        worseNeitherMoreOneLess();
        onHisSide();
        worseThanWhatHeCarriedLast();
        aheadOfGoingOver();
        orHeCarriedNothingYet();
        bothAreOnTheOtherSide();
        wearsNoLowerThanZero();
        overWithNothing();
        nobodyLooksAtIt();
    }

    // "then all PEOPLE are on SIDE 0, and carried nothing yet"
    private static void allPeopleOnSideZero() {
        WorseStile x = Due.with("t991,t991;4");
        for (int person = 0; person < 4; person++) {
            int[] fresh = {0, 0, NONE, NONE, 0, 3, 1};
            for (int what = 0; what <= 6; what++) {
                due("person(" + person + ", " + what + ")", x.person(person, what), fresh[what]);
            }
        }
    }

    // "All are THINGS; a SULK is a QUARREL, too."
    private static void aSulkIsAQuarrelToo() {
        WorseStile x = Due.with("s550,q550,n550,l550,t550;1");
        for (int thing = 0; thing < 5; thing++) {
            due("a thing", x.as(thing, 0), thing);
        }
        due("a sulk as a quarrel", x.as(0, 2), 0);
        due("a sulk as a sulk", x.as(0, 4), 0);
        due("a quarrel as a quarrel", x.as(1, 2), 1);
        due("a quarrel as a sulk", x.as(1, 4), NONE);
        due("news as a quarrel", x.as(2, 2), NONE);
        due("a limp as a quarrel", x.as(3, 2), NONE);
        due("a mere thing as a quarrel", x.as(4, 2), NONE);
        due("a sulk's kind is its own", x.thing(0, 0), 4);
    }

    // "a THING is its SHINE and its WEIGHT, both as they are; a LIMP 0 and its WEIGHT"
    private static void aLimpShinesNothingInTheLight() {
        for (int kind = 0; kind < 5; kind++) {
            for (int digit = 0; digit <= 9; digit++) {
                WorseStile x = Due.with("t110," + KINDS.charAt(kind) + digit + (9 - digit) + "0;1");
                due("shine in the light", x.thing(1, 4), kind == 1 ? 0 : digit);
                due("weight in the light", x.thing(1, 5), 9 - digit);
                due("shine as it is", x.thing(1, 1), digit);
            }
        }
    }

    // "One is WORSE than another one, if in the LIGHT neither is more, and one at least is less."
    private static void worseNeitherMoreOneLess() {
        int[][] held = {{5, 5, 0}, {4, 5, 1}, {5, 4, 1}, {4, 4, 1}, {4, 6, 0}, {6, 4, 0}, {6, 5, 0}, {5, 6, 0},
            {6, 6, 0}, {0, 0, 1}, {9, 9, 0}, {0, 5, 1}, {5, 0, 1}, {0, 6, 0}, {6, 0, 0}};
        for (int[] a : held) {
            WorseStile x = Due.with("t" + a[0] + a[1] + "0,t550;1");
            due(a[0] + " " + a[1] + " worse than 5 5", x.worse(0, 1), a[2]);
        }
        WorseStile same = Due.with("t000,t990;1");
        due("nothing worse than itself", same.worse(0, 0) + same.worse(1, 1), 0);
        WorseStile limps = Due.with("l950,t050,l040,t041;1");
        due("a limp and a dull thing are alike", limps.worse(0, 1) + limps.worse(1, 0), 0);
        due("a lighter limp is worse", limps.worse(2, 0), 1);
        due("a lighter dull thing is worse than a limp", limps.worse(3, 0), 1);
    }

    // "One may CARRY a THING that is on his SIDE"
    private static void onHisSide() {
        WorseStile x = Due.with("t990,t881;1");
        refuses(x, "side 1 from side 0", STATE, y -> y.carry(0, 1));
        x.cross(0);
        refuses(x, "side 0 from side 1", STATE, y -> y.carry(0, 0));
        due("side 1 from side 1", x.carry(0, 1), 1);
        x.forgive(0);
        due("side 0 from side 0", x.carry(0, 0), 2);
    }

    // "if it is WORSE than what he CARRIED last"
    private static void worseThanWhatHeCarriedLast() {
        int[][] next = {{5, 5, 0}, {5, 4, 1}, {4, 5, 1}, {4, 6, 0}, {6, 4, 0}, {9, 9, 0}, {0, 0, 1}};
        for (int[] n : next) {
            WorseStile x = Due.with("t550,t" + n[0] + n[1] + "1;1");
            x.carry(0, 0);
            due("may carry " + n[0] + " " + n[1] + " behind 5 5", x.person(0, 5), 2 * n[2]);
            if (n[2] == 1) {
                due("carries it", x.carry(0, 1), 2);
            } else {
                refuses(x, "carries what is not worse", STATE, y -> y.carry(0, 1));
            }
        }
        WorseStile limp = Due.with("l930,t031,t021,t121;1");
        limp.carry(0, 0);
        refuses(limp, "as good as the limp in the light", STATE, y -> y.carry(0, 1));
        refuses(limp, "more than the limp in the light", STATE, y -> y.carry(0, 3));
        due("worse than the limp", limp.carry(0, 2), 2);
    }

    // "(as that was in the LIGHT ahead of going over then)"
    private static void aheadOfGoingOver() {
        due("a thing back at once", backAtOnce("t550"), STATE);
        due("a limp back at once", backAtOnce("l550"), STATE);
        due("a quarrel back at once", backAtOnce("q150"), 2);
        due("a quarrel at 0 back at once", backAtOnce("q050"), STATE);
        due("news back at once", backAtOnce("n100"), 2);
        due("news at 0 back at once", backAtOnce("n000"), STATE);
        due("a sulk back at once", backAtOnce("s010"), 2);
        due("a sulk at 0 back at once", backAtOnce("s000"), STATE);
        WorseStile x = Due.with("q550,t541;1");
        x.carry(0, 0);
        due("not as the quarrel is now", x.worse(1, 0), 0);
        due("but as it was", x.carry(0, 1), 2);
    }

    private static int backAtOnce(String thing) {
        WorseStile x = Due.with(thing + ",t990;1");
        x.carry(0, 0);
        return x.carry(0, 0);
    }

    // "or he CARRIED nothing yet"
    private static void orHeCarriedNothingYet() {
        WorseStile x = Due.with("t000,t991;2");
        x.carry(0, 0);
        refuses(x, "better than the worst", STATE, y -> y.carry(0, 1));
        x.cross(1);
        due("the best, by who carried nothing yet", x.carry(1, 1), 1);
        due("going round is no carrying", roundThenCarry(), 1);
    }

    private static int roundThenCarry() {
        WorseStile x = Due.with("t000,t991;1");
        x.round(0, 0);
        return x.carry(0, 1);
    }

    // "Both are on the other SIDE then"
    private static void bothAreOnTheOtherSide() {
        WorseStile x = Due.with("t990,t980;2");
        x.carry(0, 0);
        due("he is on side 1", x.person(0, 0), 1);
        due("it is on side 1", x.thing(0, 3), 1);
        due("the other one is on side 0", x.person(1, 0), 0);
        due("the other thing is on side 0", x.thing(1, 3), 0);
        x.forgive(0);
        x.carry(0, 0);
        due("he is on side 0 again", x.person(0, 0), 0);
        due("it is on side 0 again", x.thing(0, 3), 0);
    }

    // "a QUARREL SHINES by 1 less then (0 at least), a SULK weighs 1 less besides (0 at least);
    //  of NEWS both become half, rounded down"
    private static void wearsNoLowerThanZero() {
        for (int shine = 0; shine <= 9; shine++) {
            for (int weight = 0; weight <= 9; weight++) {
                dueWorn('t', shine, weight, shine, weight);
                dueWorn('l', shine, weight, shine, weight);
                dueWorn('q', shine, weight, Math.max(shine - 1, 0), weight);
                dueWorn('n', shine, weight, (shine - shine % 2) / 2, (weight - weight % 2) / 2);
                dueWorn('s', shine, weight, Math.max(shine - 1, 0), Math.max(weight - 1, 0));
            }
        }
    }

    private static void dueWorn(char kind, int shine, int weight, int shines, int weighs) {
        String text = "t440," + kind + shine + weight + "0;1";
        WorseStile x = Due.with(text);
        x.carry(0, 1);
        due("carried, it shines, of " + text, x.thing(1, 1), shines);
        due("carried, it weighs, of " + text, x.thing(1, 2), weighs);
        due("he carried, as it shone", x.person(0, 2), kind == 'l' ? 0 : shine);
        due("he carried, as it weighed", x.person(0, 3), weight);
        due("the other one shines as ever", x.thing(0, 1), 4);
    }

    // "He may go over with nothing"
    private static void overWithNothing() {
        WorseStile x = Due.with("q990,t550;1");
        x.carry(0, 1);
        due("back", x.cross(0), 0);
        due("over", x.cross(0), 1);
        due("back again", x.cross(0), 0);
        due("no miles", x.person(0, 4), 0);
        due("he carried one", x.person(0, 1), 1);
        due("the last stays", x.person(0, 2) * 10 + x.person(0, 3), 55);
        due("the things stay", x.thing(0, 3) * 10 + x.thing(1, 3), 1);
        due("the quarrel stays as it is", x.thing(0, 1), 9);
    }

    // "or ROUND by the bridge, nine MILES, with any THING that is on his SIDE, or with nothing: nobody looks at it,
    //  it stays as it is, and what he CARRIED last, too"
    private static void nobodyLooksAtIt() {
        String[] kinds = {"t", "l", "q", "n", "s"};
        for (String kind : kinds) {
            WorseStile x = Due.with("t000," + kind + "771;1");
            x.carry(0, 0);
            due("round with what he may not carry", x.round(0, 1), 9);
            due("it shines as ever", x.thing(1, 1), 7);
            due("it weighs as ever", x.thing(1, 2), 7);
            due("it is over", x.thing(1, 3), 0);
            due("he is over", x.person(0, 0), 0);
            due("what he carried last stays", x.person(0, 2) + x.person(0, 3), 0);
            due("he carried one", x.person(0, 1), 1);
            refuses(x, "round with what is not there", STATE, y -> y.round(0, 0));
            due("round with nothing", x.round(0, NONE), 18);
            due("the thing stays then", x.thing(1, 3), 0);
        }
    }

    // ---- what would be

    private static void whatWouldBe() {
        rowFromNoneToEight();
        rowFirstByNumbers();
        rowWhereverTheyAre();
        widthOneToEight();
        partsOneToEight();
        partsAsTheyAreFirstMet();
        hopeOfOneToFourDays();
        hopeInLowestTerms();
        hopeLetsBe();
        gameByTheLeast();
    }

    private static int rowOf(WorseStile x, int person) {
        int row = 0;
        for (int place = 10; place <= 17; place++) {
            row = row * 10 + x.person(person, place) + 1;
        }
        return row;
    }

    // The row's things, told by digits: 1 for thing 0, 0 for NONE.
    private static void dueRow(WorseStile x, int person, int many, int row) {
        due("row has", x.person(person, 6), many);
        due("row is", rowOf(x, person), row);
    }

    // "ROW of one: the most THINGS, one behind the other"; "(NONE: it has not so many)"
    private static void rowFromNoneToEight() {
        String text = "t000,t110,t220,t330,t440,t550,t660,t770;4";
        WorseStile x = Due.with(text);
        dueRow(x, 3, 8, 87654321);
        int[] rows = {0, 10000000, 21000000, 32100000, 43210000, 54321000, 65432100, 76543210};
        for (int thing = 7; thing >= 0; thing--) {
            WorseStile y = Due.with(text);
            y.carry(3, thing);
            dueRow(y, 3, thing, rows[thing]);
            dueRow(y, 0, 8, 87654321);
        }
        dueRow(Due.with("t330,t330,t240,t420;1"), 0, 1, 10000000);
    }

    // "of like ones the first by numbers (the first THING first)"
    private static void rowFirstByNumbers() {
        dueRow(Due.with("t110,t220,t110,t220;1"), 0, 2, 21000000);
        dueRow(Due.with("t500,t050,t990,t040,t400;1"), 0, 3, 31500000);
        dueRow(Due.with("t050,t500,t990,t400,t040;1"), 0, 3, 31500000);
        dueRow(Due.with("t990,t900,t090,t080,t800;1"), 0, 3, 12500000);
        dueRow(Due.with("t990,t090,t900,t800,t080;1"), 0, 3, 12500000);
    }

    // "(All THINGS are taken as they are now, wherever they are, and as if they stayed so.)"
    private static void rowWhereverTheyAre() {
        WorseStile x = Due.with("q310,q211,q110;1");
        dueRow(x, 0, 3, 12300000);
        due("width on both sides", x.width(0), 1);
        due("parts on both sides", x.parts(0), 1);
        due("game on both sides", x.game(1), 2);
        due("hope on both sides", x.hope(4, 0) > x.hope(4, 1) ? 1 : 0, 1);
        x.polish(0, 1, 1);
        dueRow(x, 0, 2, 21000000);
        due("width as they are now", x.width(1), 5);
        due("parts as they are now", x.parts(12), 1);
        due("game as they are now", x.game(1), 0);
        due("as they stayed so", x.thing(1, 1), 2);
    }

    // "WIDTH: the most THINGS of which none is WORSE than another one: how many; which, as bits;
    //  of like ones the least"
    private static void widthOneToEight() {
        String[] texts = {"t990,t880", "t190,t910", "t390,t660,t930", "t100,t100,t100,t100", "t900,t810,t720,t630,t540",
            "t100,t100,t100,t100,t100,t100", "t100,t100,t100,t100,t100,t100,t101",
            "t720,t720,t720,t720,t270,t270,t270,t270"};
        int[] bits = {1, 3, 7, 15, 31, 63, 127, 255};
        for (int many = 1; many <= 8; many++) {
            WorseStile x = Due.with(texts[many - 1] + ";1");
            due("width(0) of " + many, x.width(0), many);
            due("width(1) of " + many, x.width(1), bits[many - 1]);
        }
        due("the last two", Due.with("t990,t100,t010;1").width(1), 6);
        due("the least of two like ones", Due.with("t990,t991,t100,t010;1").width(1), 3);
        due("the higher, where it is more", Due.with("t990,t991,t100,t010,t010;1").width(1), 28);
    }

    private static int byWhom(WorseStile x) {
        int by = 0;
        for (int what = 10; what <= 17; what++) {
            by = by * 10 + x.parts(what) + 1;
        }
        return by;
    }

    // "PARTS: by how few who CARRIED nothing yet all THINGS can be CARRIED"; "(NONE: there is none such)"
    private static void partsOneToEight() {
        int[] alone = {12000000, 12300000, 12340000, 12345000, 12345600, 12345670, 12345678};
        int[] together = {11000000, 11100000, 11110000, 11111000, 11111100, 11111110, 11111111};
        for (int many = 2; many <= 8; many++) {
            WorseStile apart = Due.with(things(many) + ";1");
            due("as many as things", apart.parts(0), many);
            due("each by one of his own", byWhom(apart), alone[many - 2]);
            for (int i = 0; i < many; i++) {
                apart.polish(i, 9 - i, i == 0 ? 9 : 4);
            }
            due("by one", apart.parts(0), 1);
            due("all by him", byWhom(apart), together[many - 2]);
        }
        WorseStile x = Due.with("t990,t880;2");
        x.carry(0, 1);
        due("whatever the people carried", x.parts(0), 1);
    }

    // "of each THING by whom (numbered from 0 as they are first met);
    //  of like ones the first by numbers (THING 0 first)"
    private static void partsAsTheyAreFirstMet() {
        due("the one just met", byWhom(Due.with("t190,t910,t180;1")), 12100000);
        due("the next one, where the first can't", byWhom(Due.with("t190,t910,t810;1")), 12200000);
        due("the first, where both can", byWhom(Due.with("t190,t910,t110;1")), 12100000);
        // Were 1 by whom 0 is, 2 and 3 would need two more.
        due("fewest ahead of first", byWhom(Due.with("t550,t510,t150,t910;1")), 12120000);
    }

    // "HOPE for so many DAYS (1 to 4)"
    private static void hopeOfOneToFourDays() {
        WorseStile x = Due.with("t990,t110;1");
        int[][] hoped = {{1, 1}, {5, 4}, {3, 2}, {27, 16}};
        for (int days = 1; days <= 4; days++) {
            due("hope(" + days + ", 0)", x.hope(days, 0), hoped[days - 1][0]);
            due("hope(" + days + ", 1)", x.hope(days, 1), hoped[days - 1][1]);
        }
        refuses(x, "hope(0, 0)", OUTSIDE, y -> y.hope(0, 0));
        refuses(x, "hope(5, 0)", OUTSIDE, y -> y.hope(5, 0));
        refuses(x, "hope(4, -1)", OUTSIDE, y -> y.hope(4, -1));
        refuses(x, "hope(4, 2)", OUTSIDE, y -> y.hope(4, 2));
    }

    // "how many, in whole parts"; "what = 0 above, 1 below, in lowest terms"
    private static void hopeInLowestTerms() {
        for (int days = 1; days <= 4; days++) {
            WorseStile alike = Due.with(things(8) + ";1");
            due("one for one", alike.hope(days, 0), 1);
            due("one for one, below", alike.hope(days, 1), 1);
        }
        // Two days, six things in a row: 1 and fifteen of thirty-six.
        WorseStile six = Due.with("t660,t550,t440,t330,t220,t110;1");
        due("seventeen twelfths, above", six.hope(2, 0), 17);
        due("seventeen twelfths, below", six.hope(2, 1), 12);
    }

    // "chooses whether he CARRIES it, if he may, or lets it be, so that he CARRIES most in the mean"
    private static void hopeLetsBe() {
        // Three days, 0 to 7 down in a row: carrying 7 on the first day leaves none, so it is let be.
        WorseStile x = Due.with("t770,t660,t550,t440,t330,t220,t110,t000;1");
        long above = x.hope(3, 0);
        long below = x.hope(3, 1);
        // By hand: with two days left and k things worse: 1 - (1 - k/8)^2 at once, or more for the better ones.
        long[] one = new long[9];
        long[] two = new long[9];
        for (int k = 0; k <= 8; k++) {
            one[k] = k;
            for (int wanted = 0; wanted < 8; wanted++) {
                two[k] += wanted < k ? Math.max(8 + one[wanted], one[k]) : one[k];
            }
        }
        long three = 0;
        for (int wanted = 0; wanted < 8; wanted++) {
            three += Math.max(64 + two[wanted], two[8]);
        }
        due("three days of eight", above * 512, three * below);
        due("letting be is of use", two[8] > 64 + two[0] ? 1 : 0, 1);
    }

    // "GAME: ... whether the first one wins, if both do what is best; by which THING: the least; none"
    private static void gameByTheLeast() {
        due("the first of like ones", Due.with("t990,t110,t110;1").game(1), 1);
        due("the last", Due.with("t990,t880,t770,t660,t550,t440,t330,t220;1").game(1), 7);
        WorseStile first = Due.with("t000,t880;1");
        due("the first", first.game(1), 0);
        due("by the first he wins, too", first.game(0), 1);
        due("one that stands apart", Due.with("t990,t880,t090;1").game(1), 1);
        WorseStile x = Due.with("t990,t880;1");
        due("the first one wins", x.game(0), 1);
        refuses(x, "game(-1)", OUTSIDE, y -> y.game(-1));
        refuses(x, "game(2)", OUTSIDE, y -> y.game(2));
    }

    // ---- what is seen

    private static void whatIsSeen() {
        eightAreSeenAtMost();
        allOfTheEightCount();
        shinesItCanHave();
        allElseAsItIsWhenAsked();
        onlyWhatIsSeenOfIt();
        holdWhereNoneAreLeft();
        holdOfLikeOnesTheLeast();
        holdFewestAtWorst();
        forgetFromNoneToEight();
        daysOneToSixty();
        seedFromZeroToTheMost();
        daysTakeDrawsInOrder();
        daysGoOverFirst();
        daysKnowNoLimits();
    }

    // "SEEN (8 at most)"
    private static void eightAreSeenAtMost() {
        WorseStile x = Due.with(things(2) + ";1");
        for (int n = 1; n <= 8; n++) {
            due("see the " + n, x.see(n % 2, 1 - n % 2, false), n);
        }
        refuses(x, "see the ninth", FULL, y -> y.see(0, 1, false));
        refuses(x, "see the ninth, worse", FULL, y -> y.see(0, 1, true));
        refuses(x, "unknown ahead of full", UNKNOWN, y -> y.see(0, 2, false));
        refuses(x, "the same ahead of full", UNKNOWN, y -> y.see(1, 1, false));
    }

    // "all that is SEEN of it"
    private static void allOfTheEightCount() {
        for (int at = 0; at < 8; at++) {
            WorseStile x = Due.with("t550,t760,t770;1");
            for (int n = 0; n < 8; n++) {
                x.see(0, 1, n != at);
            }
            due("against the other seven", x.thing(0, 8), 0);
            x.forget();
            for (int n = 0; n < 8; n++) {
                x.see(n == at ? 0 : 1, 2, true);
            }
            due("one of eight is seen of it", x.thing(0, 8), 255);
        }
    }

    // "SHINES (0 to 9) it can have ... as bits"
    private static void shinesItCanHave() {
        for (int digit = 0; digit <= 9; digit++) {
            // Of like weight it must shine less, of less weight not more.
            int less = (1 << digit) - 1;
            int notMore = (2 << digit) - 1;
            WorseStile x = Due.with("t050,t" + digit + "50,t" + digit + "60,t" + digit + "40;1");
            due("nothing seen", x.thing(0, 8), 1023);
            x.see(0, 1, true);
            due("less than " + digit, x.thing(0, 8), less);
            x.forget();
            x.see(0, 1, false);
            due("not less than " + digit, x.thing(0, 8), 1023 - less);
            x.forget();
            x.see(0, 2, true);
            due("not more than " + digit, x.thing(0, 8), notMore);
            x.forget();
            x.see(0, 2, false);
            due("more than " + digit, x.thing(0, 8), 1023 - notMore);
            x.forget();
            x.see(0, 3, true);
            due("never worse than a lighter one", x.thing(0, 8), 0);
            x.forget();
            x.see(0, 3, false);
            due("always so", x.thing(0, 8), 1023);
        }
        WorseStile limp = Due.with("l950,t060,t050;1");
        limp.see(0, 1, true);
        due("a limp may shine as it will", limp.thing(0, 8), 1023);
        limp.see(0, 2, true);
        due("or can't be so at all", limp.thing(0, 8), 0);
        due("nothing to hold against then", limp.thing(0, 9), NONE);
    }

    // "all else as it is when that is asked"
    private static void allElseAsItIsWhenAsked() {
        WorseStile x = Due.with("t550,q550;1");
        x.see(0, 1, true);
        due("ahead", x.thing(0, 8), 31);
        x.carry(0, 1);
        due("the other one wore", x.thing(0, 8), 15);
        x.polish(0, 9, 4);
        due("it weighs less now", x.thing(0, 8), 31);
        x.polish(0, 0, 4);
        due("however it shines itself", x.thing(0, 8), 31);
        x.polish(1, 9, 4);
        due("the other one was polished", x.thing(0, 8), 511);
        x.polish(1, 9, 3);
        due("the other one is lighter", x.thing(0, 8), 0);
    }

    // "of which it is not known how it SHINES ... all that is SEEN of it": not what is seen of the other one
    private static void onlyWhatIsSeenOfIt() {
        WorseStile x = Due.with("t550,t550,t550;1");
        x.see(1, 0, true);
        x.see(2, 0, true);
        x.see(1, 2, false);
        due("nothing was seen of 0", x.thing(0, 8), 1023);
        due("two of 1", x.thing(1, 8), 0);
        due("one of 2", x.thing(2, 8), 31);
    }

    // "none, if there are none"
    private static void holdWhereNoneAreLeft() {
        WorseStile x = Due.with("t550,t550;1");
        x.see(0, 1, true);
        due("some are left", x.thing(0, 9), 1);
        x.see(0, 1, false);
        due("none are left", x.thing(0, 8), 0);
        due("none to hold against", x.thing(0, 9), NONE);
        due("the other one still", x.thing(1, 9), 0);
        x.forget();
        due("all are left again", x.thing(0, 9), 1);
    }

    // "against which other one to hold it"; "of like ones the least"
    private static void holdOfLikeOnesTheLeast() {
        for (int thing = 0; thing < 8; thing++) {
            due("all are alike", Due.with(things(8) + ";1").thing(thing, 9), thing == 0 ? 1 : 0);
            for (int a = 0; a < 8; a++) {
                for (int b = a + 1; b < 8; b++) {
                    WorseStile x = Due.with(things(8) + ";1");
                    x.polish(thing, 5, 1);
                    x.polish(a, 5, 1);
                    x.polish(b, 5, 1);
                    // Less than 5 leaves five at worst, less than 1 leaves nine; it is never held against itself.
                    due("of " + a + " and " + b + " for " + thing, x.thing(thing, 9), a == thing ? b : a);
                }
            }
        }
    }

    // "so that fewest of these are left at worst, by whether it is WORSE"
    private static void holdFewestAtWorst() {
        // Less than 1, 3, 5, 7 and 9: five are left at worst against the middle one.
        due("the middle", Due.with("t050,t150,t350,t550,t750,t950;1").thing(0, 9), 3);
        // Less than 4 leaves six, less than 6 leaves six: the least.
        due("four and six", Due.with("t050,t650,t450;1").thing(0, 9), 1);
        due("six and four", Due.with("t050,t450,t650;1").thing(0, 9), 1);
        // Less than 4 leaves six, not more than 4 leaves five.
        due("by its weight", Due.with("t050,t450,t460;1").thing(0, 9), 2);
        WorseStile x = Due.with("t050,t550,t250,t750;1");
        due("of all ten", x.thing(0, 9), 1);
        x.see(0, 1, true);
        due("of the lower five", x.thing(0, 9), 2);
        x.forget();
        x.see(0, 1, false);
        due("of the upper five", x.thing(0, 9), 3);
    }

    // "Nothing is SEEN any more: how much was."
    private static void forgetFromNoneToEight() {
        for (int many = 0; many <= 8; many++) {
            WorseStile x = Due.with(things(2) + ";1");
            for (int n = 0; n < many; n++) {
                x.see(0, 1, true);
            }
            due("forget of " + many, x.forget(), many);
            due("none then", x.count(9), 0);
            due("forget of none", x.forget(), 0);
            due("the first again", x.see(1, 0, true), 1);
        }
    }

    // "OUTSIDE: days (1 to 60), seed (0 at least), what"
    private static void daysOneToSixty() {
        WorseStile x = Due.with("t330,t331;1");
        due("days(1, 0, 0)", x.days(1, 0, 0), 1);
        due("days(1, 0, 1)", x.days(1, 0, 1), 0);
        due("days(60, 0, 0)", x.days(60, 0, 0), 1);
        due("days(60, 0, 1)", x.days(60, 0, 1), 531);
        refuses(x, "days(0, 0, 0)", OUTSIDE, y -> y.days(0, 0, 0));
        refuses(x, "days(61, 0, 0)", OUTSIDE, y -> y.days(61, 0, 0));
        refuses(x, "days(1, -1, 0)", OUTSIDE, y -> y.days(1, -1, 0));
        refuses(x, "days(1, 0, -1)", OUTSIDE, y -> y.days(1, 0, -1));
        refuses(x, "days(1, 0, 3)", OUTSIDE, y -> y.days(1, 0, 3));
        refuses(x, "days(60, 99, 0), taken,", 1, y -> y.days(60, 99, 0));
    }

    // "1103515245 times it and 12345, its rest by 2 to the 31"
    private static void seedFromZeroToTheMost() {
        WorseStile x = Due.with("t330,t331;1");
        // By hand: 0 goes to 12345, and that to 1103515245 * 12345 + 12345, less 6343 times 2 to the 31.
        due("seed 0", x.days(1, 0, 2), 1406932606);
        due("seed most", x.days(1, MOST, 2), 288979989);
        int[] seeds = {0, 1, 2, 65535, 65536, 1073741823, 1073741824, MOST - 1, MOST};
        for (int seed : seeds) {
            long drawn = seed;
            for (int days = 1; days <= 60; days++) {
                drawn = (1103515245L * drawn + 12345) % 2147483648L;
                drawn = (1103515245L * drawn + 12345) % 2147483648L;
                due("days(" + days + ", " + seed + ", 2)", x.days(days, seed, 2), drawn);
            }
        }
    }

    // "one by a DRAW of how many PEOPLE there are takes a THING by a DRAW of how many there are"
    private static void daysTakeDrawsInOrder() {
        for (int people = 1; people <= 4; people++) {
            for (int things = 2; things <= 8; things++) {
                for (int seed = 0; seed < 40; seed++) {
                    long first = (1103515245L * seed + 12345) % 2147483648L;
                    long second = (1103515245L * first + 12345) % 2147483648L;
                    int person = (int) (first / 65536 % people);
                    int thing = (int) (second / 65536 % things);
                    WorseStile x = Due.with(things(things) + ";" + people);
                    // He carried the worst of all, the others nothing; the thing drawn is the only one he still may.
                    x.polish(thing, 0, 0);
                    x.carry(person, thing == 0 ? 1 : 0);
                    due("he carries what is drawn", x.days(1, seed, 0), 1);
                    x.polish(thing, 1, 1);
                    due("he goes round with it", x.days(1, seed, 1), 9);
                }
            }
        }
    }

    // "if it is on the other SIDE, he goes over with nothing first"
    private static void daysGoOverFirst() {
        WorseStile x = Due.with("t111,t111;1");
        due("he goes over for it and carries it", x.days(1, 0, 0), 1);
        due("that is no mile", x.days(1, 0, 1), 0);
        for (int days = 1; days <= 60; days++) {
            due("carried the first day", x.days(days, 7, 0), 1);
            due("nine miles each day then", x.days(days, 7, 1), 9 * (days - 1));
        }
        due("all stay where they are", x.count(2) * 10 + x.count(3), 20);
    }

    // DAYS are no calls of carry() and round(): they know none of their FULL.
    private static void daysKnowNoLimits() {
        WorseStile fresh = Due.with("t000,t001;1");
        WorseStile tired = Due.with("t000,t001;1");
        for (int n = 0; n < 100; n++) {
            tired.round(0, NONE);
        }
        for (int n = 0; n < 99; n++) {
            tired.carry(0, 0);
            tired.forgive(0);
        }
        due("no more miles", tired.round(0, NONE), FULL);
        due("no more to carry", tired.carry(0, 0), FULL);
        for (int what = 0; what <= 2; what++) {
            due("days(9, 5, " + what + ") of one who can do no more", tired.days(9, 5, what), fresh.days(9, 5, what));
        }
    }

    // ---- the page

    private static void thePage() {
        letterFromSpaceToTilde();
        letterUpToFortyFour();
        blankFromNoneToFortyFour();
        faultOfNoneAndOfAll();
        stileOfWhatIsNone();
        anotherOneIsGone();
    }

    // "OUTSIDE: code (32 to 126)"
    private static void letterFromSpaceToTilde() {
        for (int code = 32; code <= 126; code++) {
            due("letter(" + code + ")", new WorseStile().letter(code), 1);
        }
        WorseStile x = new WorseStile();
        int[] outside = {31, 127, 0, -1, 128, 255, 256 + 't', LEAST, MOST};
        for (int code : outside) {
            refuses(x, "letter(" + code + ")", OUTSIDE, y -> y.letter(code));
        }
    }

    // "FULL: above 44"
    private static void letterUpToFortyFour() {
        WorseStile x = new WorseStile();
        for (int had = 0; had < 44; had++) {
            due("letter behind " + had, x.letter('~'), had + 1);
        }
        refuses(x, "letter behind 44", FULL, y -> y.letter('~'));
        refuses(x, "letter behind 44, outside", OUTSIDE, y -> y.letter(31));
        refuses(x, "letter behind 44, outside above", OUTSIDE, y -> y.letter(127));
    }

    // "THE PAGE is empty: how many letters it had."
    private static void blankFromNoneToFortyFour() {
        WorseStile x = new WorseStile();
        for (int many = 0; many <= 44; many += 11) {
            Due.write(x, "~".repeat(many));
            due("blank of " + many, x.blank(), many);
            due("blank of none", x.blank(), 0);
            due("fault of none", x.fault(), 0);
        }
    }

    // "how many letters it has, if there is none"
    private static void faultOfNoneAndOfAll() {
        due("fault of none", new WorseStile().fault(), 0);
        String whole = things(8) + ";4";
        for (int many = 0; many <= 41; many++) {
            WorseStile x = new WorseStile();
            Due.write(x, whole.substring(0, many));
            due("fault of the first " + many, x.fault(), many);
        }
        for (int more = 1; more <= 3; more++) {
            WorseStile x = new WorseStile();
            Due.write(x, whole + "444".substring(0, more));
            due("fault of " + more + " behind all", x.fault(), 41);
            refuses(x, "stile() of " + more + " behind all", STATE, y -> y.stile());
        }
    }

    // "STATE: it is none."
    private static void stileOfWhatIsNone() {
        String whole = "t110,l220,q330;2";
        for (int many = 0; many < whole.length(); many++) {
            WorseStile x = Due.with("n540,s451;3");
            x.carry(1, 0);
            x.image();
            Due.write(x, whole.substring(0, many));
            refuses(x, "stile() of the first " + many, STATE, y -> y.stile());
            due("the image is still kept", x.restore(), 1);
        }
        WorseStile x = Due.with(whole);
        due("the page is empty then", x.count(10), 0);
        refuses(x, "stile() of an empty page", STATE, y -> y.stile());
    }

    // "(another one is gone, with all that was)"
    private static void anotherOneIsGone() {
        WorseStile x = full();
        x.image();
        x.blank();
        Due.read(x, EIGHT);
        WorseStile fresh = Due.with(EIGHT);
        for (int what = 0; what <= 10; what++) {
            due("as new: count(" + what + ")", x.count(what), fresh.count(what));
        }
        due("read twice", x.count(11), 2);
        due("the image is gone", x.restore(), STATE);
        due("nothing is seen", x.forget(), 0);
        for (int person = 0; person < 4; person++) {
            for (int what = 0; what <= 6; what++) {
                due("as new: a person's " + what, x.person(person, what), fresh.person(person, what));
            }
        }
        due("he may carry again", x.carry(0, 0), 1);
        due("he may go round again", x.round(0, NONE), 9);
    }

    // ---- things, people

    private static void thingsAndPeople() {
        thingZeroToNine();
        asKindZeroToFour();
        personZeroToSixAndTenToSeventeen();
    }

    // Promise 6: "UNKNOWN; OUTSIDE."
    private static void thingZeroToNine() {
        WorseStile x = Due.with(EIGHT);
        int[] first = {0, 9, 9, 0, 9, 9, 254, 0, 1023, 1};
        int[] last = {2, 2, 2, 1, 2, 2, 0, 1 + 4 + 8 + 16 + 32, 1023, 5};
        for (int what = 0; what <= 9; what++) {
            due("thing(0, " + what + ")", x.thing(0, what), first[what]);
            due("thing(7, " + what + ")", x.thing(7, what), last[what]);
        }
        int[] outside = {-1, 10, 11, LEAST, MOST};
        for (int what : outside) {
            refuses(x, "thing(7, " + what + ")", OUTSIDE, y -> y.thing(7, what));
            refuses(x, "thing(-1, " + what + ")", UNKNOWN, y -> y.thing(-1, what));
            refuses(x, "thing(8, " + what + ")", UNKNOWN, y -> y.thing(8, what));
        }
    }

    // Promise 7: "NONE: it is none such (the cast fails). UNKNOWN; OUTSIDE."
    private static void asKindZeroToFour() {
        WorseStile x = Due.with(things(7) + ",s110;1");
        due("as(0, 0)", x.as(0, 0), 0);
        due("as(7, 4)", x.as(7, 4), 7);
        due("as(0, 4)", x.as(0, 4), NONE);
        int[] outside = {-1, 5, LEAST, MOST};
        for (int kind : outside) {
            refuses(x, "as(0, " + kind + ")", OUTSIDE, y -> y.as(0, kind));
            refuses(x, "as(-1, " + kind + ")", UNKNOWN, y -> y.as(-1, kind));
            refuses(x, "as(8, " + kind + ")", UNKNOWN, y -> y.as(8, kind));
        }
    }

    // Promise 8: "UNKNOWN; OUTSIDE."
    private static void personZeroToSixAndTenToSeventeen() {
        WorseStile x = Due.with("t000,t110,t220,t330,t440,t550,t660,t770;4");
        int[] fresh = {0, 0, NONE, NONE, 0, 255, 8};
        for (int what = 0; what <= 6; what++) {
            due("person(3, " + what + ")", x.person(3, what), fresh[what]);
        }
        for (int what = 10; what <= 17; what++) {
            due("person(3, " + what + ")", x.person(3, what), 17 - what);
        }
        int[] outside = {-1, 7, 8, 9, 18, LEAST, MOST};
        for (int what : outside) {
            refuses(x, "person(3, " + what + ")", OUTSIDE, y -> y.person(3, what));
            refuses(x, "person(-1, " + what + ")", UNKNOWN, y -> y.person(-1, what));
            refuses(x, "person(4, " + what + ")", UNKNOWN, y -> y.person(4, what));
        }
        x.carry(3, 0);
        due("0 is not NONE", x.person(3, 2) + x.person(3, 3), 0);
    }

    // ---- what is done

    private static void whatIsDone() {
        carryNinetyNine();
        carryRefusals();
        crossRefusals();
        roundUpToNineHundred();
        roundRefusals();
        polishZeroToNine();
        forgiveRefusals();
        worseRefusals();
        seeRefusals();
    }

    // "FULL: he CARRIED 99"
    private static void carryNinetyNine() {
        WorseStile x = Due.with("t000,t010,t991;2");
        for (int n = 1; n <= 98; n++) {
            x.carry(0, 0);
            x.forgive(0);
        }
        due("98", x.person(0, 1), 98);
        due("the last one", x.carry(0, 0), 99);
        refuses(x, "on the other side, ahead of full", STATE, y -> y.carry(0, 1));
        refuses(x, "may not, ahead of full", STATE, y -> y.carry(0, 2));
        due("forgive", x.forgive(0), 99);
        refuses(x, "one more", FULL, y -> y.carry(0, 0));
        refuses(x, "another one more", FULL, y -> y.carry(0, 2));
        refuses(x, "unknown thing, ahead of full", UNKNOWN, y -> y.carry(0, 3));
        due("of what he may carry full says nothing", x.person(0, 5), 7);
        due("nor of his row", x.person(0, 6), 3);
        due("the other one carries", x.carry(1, 1), 1);
        due("carried by all", x.count(4), 100);
    }

    // "UNKNOWN: person, thing; STATE: it is not on his SIDE, or he may not"
    private static void carryRefusals() {
        WorseStile x = Due.with("t110,t990,t001;2");
        int[] people = {-1, 2, LEAST, MOST};
        int[] things = {NONE, -2, 3, LEAST, MOST};
        for (int person : people) {
            refuses(x, "carry(" + person + ", 0)", UNKNOWN, y -> y.carry(person, 0));
            refuses(x, "carry(" + person + ", 2)", UNKNOWN, y -> y.carry(person, 2));
        }
        for (int thing : things) {
            refuses(x, "carry(0, " + thing + ")", UNKNOWN, y -> y.carry(0, thing));
        }
        refuses(x, "not on his side", STATE, y -> y.carry(0, 2));
        due("the last person, the last thing there", x.carry(1, 0), 1);
        due("worse, on side 1", x.carry(1, 2), 2);
        refuses(x, "on his side, but not worse", STATE, y -> y.carry(1, 1));
        refuses(x, "as good, on his side", STATE, y -> y.carry(1, 2));
    }

    // "on which SIDE he is. UNKNOWN."
    private static void crossRefusals() {
        WorseStile x = Due.with("t110,t110;3");
        due("cross(2)", x.cross(2), 1);
        due("cross(2) back", x.cross(2), 0);
        due("cross(0)", x.cross(0), 1);
        int[] people = {-1, 3, LEAST, MOST};
        for (int person : people) {
            refuses(x, "cross(" + person + ")", UNKNOWN, y -> y.cross(person));
        }
    }

    // "FULL: there would be more than 900"
    private static void roundUpToNineHundred() {
        WorseStile x = Due.with("t110,t111;2");
        for (int miles = 9; miles <= 891; miles += 9) {
            x.round(0, NONE);
        }
        due("891", x.person(0, 4), 891);
        due("he is on side 1", x.person(0, 0), 1);
        due("900, with a thing", x.round(0, 1), 900);
        refuses(x, "more, with nothing", FULL, y -> y.round(0, NONE));
        refuses(x, "more, with a thing", FULL, y -> y.round(0, 0));
        due("he may still cross", x.cross(0), 1);
        refuses(x, "not on his side, ahead of full", STATE, y -> y.round(0, 0));
        refuses(x, "unknown thing, ahead of full", UNKNOWN, y -> y.round(0, 2));
        due("he may still carry", carryAll(x), 1);
        due("the other one goes round", x.round(1, 0), 9);
    }

    private static int carryAll(WorseStile x) {
        x.cross(0);
        return x.carry(0, 1);
    }

    // "(NONE: with nothing)"; "UNKNOWN: person, thing; STATE: it is not on his SIDE"
    private static void roundRefusals() {
        WorseStile x = Due.with("t110,t111;2");
        int[] people = {-1, 2, LEAST, MOST};
        for (int person : people) {
            refuses(x, "round(" + person + ", NONE)", UNKNOWN, y -> y.round(person, NONE));
            refuses(x, "round(" + person + ", 1)", UNKNOWN, y -> y.round(person, 1));
        }
        int[] things = {-2, 2, UNKNOWN, LEAST, MOST};
        for (int thing : things) {
            refuses(x, "round(0, " + thing + ")", UNKNOWN, y -> y.round(0, thing));
        }
        refuses(x, "not on his side", STATE, y -> y.round(0, 1));
        due("the last person with nothing", x.round(1, NONE), 9);
        due("the last thing back", x.round(1, 1), 18);
        due("it is on side 0", x.thing(1, 3), 0);
    }

    // "OUTSIDE: shine, weight (0 to 9)"
    private static void polishZeroToNine() {
        WorseStile x = Due.with("t470,q551;1");
        due("the most of both", x.polish(1, 9, 9), 5);
        due("it shines", x.thing(1, 1), 9);
        due("it weighs", x.thing(1, 2), 9);
        due("the least of both", x.polish(1, 0, 0), 9);
        due("it does not shine", x.thing(1, 1), 0);
        due("it does not weigh", x.thing(1, 2), 0);
        due("as it was", x.polish(1, 0, 0), 0);
        int[] digits = {-1, 10, LEAST, MOST};
        for (int digit : digits) {
            refuses(x, "shine " + digit, OUTSIDE, y -> y.polish(0, digit, 5));
            refuses(x, "weight " + digit, OUTSIDE, y -> y.polish(0, 5, digit));
            refuses(x, "unknown ahead of outside", UNKNOWN, y -> y.polish(2, digit, 5));
            refuses(x, "unknown -1 ahead of outside", UNKNOWN, y -> y.polish(-1, 5, digit));
        }
        refuses(x, "unknown", UNKNOWN, y -> y.polish(2, 5, 5));
    }

    // "UNKNOWN; STATE: nothing."
    private static void forgiveRefusals() {
        WorseStile x = Due.with("t000,t110;2");
        refuses(x, "nothing yet", STATE, y -> y.forgive(1));
        x.round(1, 0);
        refuses(x, "round is nothing carried", STATE, y -> y.forgive(1));
        due("carry", x.carry(1, 0), 1);
        refuses(x, "the other one still nothing", STATE, y -> y.forgive(0));
        due("forgive", x.forgive(1), 1);
        refuses(x, "forgiven already", STATE, y -> y.forgive(1));
        int[] people = {-1, 2, LEAST, MOST};
        for (int person : people) {
            refuses(x, "forgive(" + person + ")", UNKNOWN, y -> y.forgive(person));
        }
    }

    // Promise 14: "UNKNOWN: a, b."
    private static void worseRefusals() {
        WorseStile x = Due.with(EIGHT);
        due("worse(7, 0)", x.worse(7, 0), 1);
        due("worse(0, 7)", x.worse(0, 7), 0);
        due("worse(7, 7)", x.worse(7, 7), 0);
        int[] unknown = {-1, 8, LEAST, MOST};
        for (int i : unknown) {
            refuses(x, "worse(" + i + ", 7)", UNKNOWN, y -> y.worse(i, 7));
            refuses(x, "worse(7, " + i + ")", UNKNOWN, y -> y.worse(7, i));
            refuses(x, "worse(" + i + ", " + i + ")", UNKNOWN, y -> y.worse(i, i));
        }
    }

    // Promise 19: "UNKNOWN: thing, other, or they are the same; FULL."
    private static void seeRefusals() {
        WorseStile x = Due.with(EIGHT);
        int[] unknown = {-1, 8, LEAST, MOST};
        for (int i : unknown) {
            refuses(x, "see(" + i + ", 7)", UNKNOWN, y -> y.see(i, 7, true));
            refuses(x, "see(7, " + i + ")", UNKNOWN, y -> y.see(7, i, false));
        }
        for (int i = 0; i < 8; i++) {
            int same = i;
            refuses(x, "see(" + i + ", " + i + ")", UNKNOWN, y -> y.see(same, same, true));
        }
        due("see(7, 0)", x.see(7, 0, true), 1);
        due("see(0, 7)", x.see(0, 7, false), 2);
    }

    // ---- what would be, refused

    // Promises 15 to 18 and 24: "OUTSIDE", on both ends
    private static void refusalsOfWhatWouldBe() {
        WorseStile x = Due.with(EIGHT);
        int[] ends = {LEAST, -1, 2, MOST};
        for (int what : ends) {
            refuses(x, "width(" + what + ")", OUTSIDE, y -> y.width(what));
            refuses(x, "game(" + what + ")", OUTSIDE, y -> y.game(what));
            refuses(x, "hope(1, " + what + ")", OUTSIDE, y -> y.hope(1, what));
        }
        int[] places = {LEAST, -1, 1, 6, 9, 18, MOST};
        for (int what : places) {
            refuses(x, "parts(" + what + ")", OUTSIDE, y -> y.parts(what));
        }
        int[] days = {LEAST, -1, 0, 5, MOST};
        for (int many : days) {
            refuses(x, "hope(" + many + ", 0)", OUTSIDE, y -> y.hope(many, 0));
        }
        int[] counts = {LEAST, -1, 12, MOST};
        for (int what : counts) {
            refuses(x, "count(" + what + ")", OUTSIDE, y -> y.count(what));
        }
        due("count(0)", x.count(0), 8);
        due("count(11)", x.count(11), 1);
        // Asking what would be changes nothing either.
        refuses(x, "width(0), taken,", 2, y -> y.width(0));
        refuses(x, "parts(0), taken,", 2, y -> y.parts(0));
        refuses(x, "game(1), taken,", 6, y -> y.game(1));
        refuses(x, "hope(1, 1), taken,", 1, y -> y.hope(1, 1));
    }

    // ---- image, restore

    private static void imageAndRestore() {
        oneImageTheLatest();
        imageKeepsAllThatIsNamed();
        noneWasKeptOrAStileWasReadSince();
        refusedCallsKeepTheImage();
    }

    // "An IMAGE is kept (one; the latest)"
    private static void oneImageTheLatest() {
        WorseStile x = Due.with(EIGHT);
        due("the first", x.image(), 0);
        x.carry(0, 0);
        due("the latest", x.image(), 1);
        x.carry(1, 2);
        due("the latest is restored", x.restore(), 1);
        due("one was carried", x.count(4), 1);
        due("and again", x.restore(), 1);
        x.carry(1, 2);
        due("the latest again", x.image(), 2);
        due("restored", x.restore(), 2);
    }

    // "An IMAGE keeps SHINE, WEIGHT, SIDES, what each CARRIED last, and how often, MILES, SEEN."
    private static void imageKeepsAllThatIsNamed() {
        WorseStile x = Due.with(EIGHT);
        x.carry(3, 2);
        x.round(2, 0);
        x.see(0, 1, true);
        x.image();
        String[] names = {"shine", "weight", "sides of things", "sides of people", "last", "last forgiven", "how often",
            "miles", "seen more", "seen no more"};
        for (int change = 0; change < names.length; change++) {
            long kept = x.digest();
            changeOne(x, change);
            due(names[change] + " is other now", x.digest() == kept ? 1 : 0, 0);
            due("restore()", x.restore(), 1);
            due(names[change] + " is as kept", x.digest(), kept);
        }
        Due.write(x, "t1");
        x.restore();
        due("the page is not kept", x.blank(), 2);
    }

    private static void changeOne(WorseStile x, int change) {
        switch (change) {
            case 0: x.polish(7, 9, 2); break;
            case 1: x.polish(7, 2, 9); break;
            case 2: x.round(0, 4); break;
            case 3: x.cross(3); break;
            case 4: x.carry(0, 4); break;
            case 5: x.forgive(3); break;
            case 6: x.carry(1, 4); x.forgive(1); break;
            case 7: x.round(1, NONE); x.cross(1); break;
            case 8: x.see(7, 1, true); break;
            default: x.forget();
        }
    }

    // "STATE: none was kept, or a STILE was read since (of the same text, too)."
    private static void noneWasKeptOrAStileWasReadSince() {
        WorseStile x = Due.with(EIGHT);
        refuses(x, "none was kept", STATE, y -> y.restore());
        x.image();
        due("kept", x.restore(), 0);
        Due.read(x, EIGHT);
        refuses(x, "a stile was read since", STATE, y -> y.restore());
        due("kept again", x.image(), 0);
        due("restored again", x.restore(), 0);
        Due.write(x, EIGHT);
        due("a page is no stile yet", x.restore(), 0);
        due("now it is", x.stile(), 8);
        refuses(x, "gone again", STATE, y -> y.restore());
    }

    // "they change nothing", the image neither
    private static void refusedCallsKeepTheImage() {
        WorseStile x = full();
        long kept = x.digest();
        due("image()", x.image(), 99);
        x.polish(0, 0, 0);
        due("a letter too many", x.letter('t'), FULL);
        due("no stile", x.stile(), STATE);
        due("carry", x.carry(0, 99), UNKNOWN);
        due("see", x.see(0, 1, true), FULL);
        due("forgive", x.forgive(9), UNKNOWN);
        due("days", x.days(60, 5, 1) >= 0 ? 1 : 0, 1);
        due("restore()", x.restore(), 99);
        due("as kept", x.digest(), kept);
        WorseStile none = new WorseStile();
        due("no image without a stile", none.image(), STATE);
        due("none was kept then", none.restore(), STATE);
    }

    // ---- refusals of all calls at both ends of use

    // "No STILE."; "STATE: no STILE"; of several the first as told by each call
    private static void refusalsOfANewObject() {
        WorseStile x = new WorseStile();
        refuses(x, "new: letter(31)", OUTSIDE, y -> y.letter(31));
        refuses(x, "new: stile()", STATE, y -> y.stile());
        refuses(x, "new: thing(0, 10)", UNKNOWN, y -> y.thing(0, 10));
        refuses(x, "new: as(0, 5)", UNKNOWN, y -> y.as(0, 5));
        refuses(x, "new: person(0, 7)", UNKNOWN, y -> y.person(0, 7));
        refuses(x, "new: carry(0, 0)", UNKNOWN, y -> y.carry(0, 0));
        refuses(x, "new: cross(0)", UNKNOWN, y -> y.cross(0));
        refuses(x, "new: round(0, NONE)", UNKNOWN, y -> y.round(0, NONE));
        refuses(x, "new: polish(0, 10, 10)", UNKNOWN, y -> y.polish(0, 10, 10));
        refuses(x, "new: forgive(0)", UNKNOWN, y -> y.forgive(0));
        refuses(x, "new: worse(0, 1)", UNKNOWN, y -> y.worse(0, 1));
        refuses(x, "new: see(0, 1, true)", UNKNOWN, y -> y.see(0, 1, true));
        refuses(x, "new: image()", STATE, y -> y.image());
        refuses(x, "new: restore()", STATE, y -> y.restore());
        for (int what = 0; what <= 1; what++) {
            int asked = what;
            refuses(x, "new: width(" + what + ")", STATE, y -> y.width(asked));
            refuses(x, "new: game(" + what + ")", STATE, y -> y.game(asked));
            refuses(x, "new: hope(1, " + what + ")", STATE, y -> y.hope(1, asked));
            refuses(x, "new: hope(4, " + what + ")", STATE, y -> y.hope(4, asked));
        }
        for (int what = 0; what <= 2; what++) {
            int asked = what;
            refuses(x, "new: days(1, 0, " + what + ")", STATE, y -> y.days(1, 0, asked));
            refuses(x, "new: days(60, most, " + what + ")", STATE, y -> y.days(60, MOST, asked));
        }
        int[] places = {0, 10, 11, 16, 17};
        for (int what : places) {
            refuses(x, "new: parts(" + what + ")", STATE, y -> y.parts(what));
        }
        outsideAheadOfState(x);
    }

    private static void outsideAheadOfState(WorseStile x) {
        refuses(x, "new: width(2)", OUTSIDE, y -> y.width(2));
        refuses(x, "new: width(-1)", OUTSIDE, y -> y.width(-1));
        refuses(x, "new: parts(9)", OUTSIDE, y -> y.parts(9));
        refuses(x, "new: parts(18)", OUTSIDE, y -> y.parts(18));
        refuses(x, "new: hope(0, 0)", OUTSIDE, y -> y.hope(0, 0));
        refuses(x, "new: hope(5, 0)", OUTSIDE, y -> y.hope(5, 0));
        refuses(x, "new: hope(1, 2)", OUTSIDE, y -> y.hope(1, 2));
        refuses(x, "new: hope(1, -1)", OUTSIDE, y -> y.hope(1, -1));
        refuses(x, "new: game(2)", OUTSIDE, y -> y.game(2));
        refuses(x, "new: game(-1)", OUTSIDE, y -> y.game(-1));
        refuses(x, "new: days(0, 0, 0)", OUTSIDE, y -> y.days(0, 0, 0));
        refuses(x, "new: days(61, 0, 0)", OUTSIDE, y -> y.days(61, 0, 0));
        refuses(x, "new: days(1, -1, 0)", OUTSIDE, y -> y.days(1, -1, 0));
        refuses(x, "new: days(1, 0, 3)", OUTSIDE, y -> y.days(1, 0, 3));
        refuses(x, "new: days(1, 0, -1)", OUTSIDE, y -> y.days(1, 0, -1));
        refuses(x, "new: count(12)", OUTSIDE, y -> y.count(12));
    }

    // One has carried 99, with nothing last, and went 900 miles; eight are seen; the page is full.
    private static WorseStile full() {
        WorseStile x = Due.with(EIGHT);
        for (int n = 0; n < 99; n++) {
            x.carry(0, 0);
            x.forgive(0);
        }
        for (int n = 0; n < 100; n++) {
            x.round(0, NONE);
        }
        for (int n = 0; n < 8; n++) {
            x.see(n, (n + 3) % 8, n % 2 == 0);
        }
        Due.write(x, EIGHT + "444");
        return x;
    }

    private static void refusesWhenFull(String call, long want, ToLongFunction<WorseStile> asked) {
        refuses(full(), "full: " + call, want, asked);
    }

    // Thing 0 stands with person 0 on side 1, as does thing 1; thing 2 is on side 0.
    private static void refusalsWhenAllIsFull() {
        refusesWhenFull("letter(126)", FULL, x -> x.letter(126));
        refusesWhenFull("letter(127)", OUTSIDE, x -> x.letter(127));
        refusesWhenFull("stile()", STATE, x -> x.stile());
        refusesWhenFull("thing(8, 10)", UNKNOWN, x -> x.thing(8, 10));
        refusesWhenFull("thing(7, 10)", OUTSIDE, x -> x.thing(7, 10));
        refusesWhenFull("as(8, 5)", UNKNOWN, x -> x.as(8, 5));
        refusesWhenFull("as(7, 5)", OUTSIDE, x -> x.as(7, 5));
        refusesWhenFull("person(4, 18)", UNKNOWN, x -> x.person(4, 18));
        refusesWhenFull("person(3, 18)", OUTSIDE, x -> x.person(3, 18));
        refusesWhenFull("carry(4, 0)", UNKNOWN, x -> x.carry(4, 0));
        refusesWhenFull("carry(0, 8)", UNKNOWN, x -> x.carry(0, 8));
        refusesWhenFull("carry(0, 2)", STATE, x -> x.carry(0, 2));
        refusesWhenFull("carry(0, 0)", FULL, x -> x.carry(0, 0));
        refusesWhenFull("cross(4)", UNKNOWN, x -> x.cross(4));
        refusesWhenFull("round(4, NONE)", UNKNOWN, x -> x.round(4, NONE));
        refusesWhenFull("round(0, 8)", UNKNOWN, x -> x.round(0, 8));
        refusesWhenFull("round(0, 2)", STATE, x -> x.round(0, 2));
        refusesWhenFull("round(0, 1)", FULL, x -> x.round(0, 1));
        refusesWhenFull("round(0, NONE)", FULL, x -> x.round(0, NONE));
        refusesWhenFull("polish(8, 10, 0)", UNKNOWN, x -> x.polish(8, 10, 0));
        refusesWhenFull("polish(7, 0, 10)", OUTSIDE, x -> x.polish(7, 0, 10));
        refusesWhenFull("forgive(4)", UNKNOWN, x -> x.forgive(4));
        refusesWhenFull("forgive(0)", STATE, x -> x.forgive(0));
        refusesWhenFull("see(7, 8, true)", UNKNOWN, x -> x.see(7, 8, true));
        refusesWhenFull("see(7, 7, true)", UNKNOWN, x -> x.see(7, 7, true));
        refusesWhenFull("see(7, 6, true)", FULL, x -> x.see(7, 6, true));
        refusesWhenFull("days(61, 0, 0)", OUTSIDE, x -> x.days(61, 0, 0));
        refusesWhenFull("restore()", STATE, x -> x.restore());
        refusesWhenFull("count(12)", OUTSIDE, x -> x.count(12));
        refusesWhenFull("count(4), taken,", 99, x -> x.count(4));
        refusesWhenFull("count(5), taken,", 900, x -> x.count(5));
        refusesWhenFull("count(9), taken,", 8, x -> x.count(9));
        refusesWhenFull("count(10), taken,", 44, x -> x.count(10));
        refusesWhenFull("fault(), taken,", 41, x -> x.fault());
        WorseStile x = full();
        due("blank makes room", x.blank(), 44);
        due("for a letter", x.letter('t'), 1);
        due("forget makes room", x.forget(), 8);
        due("for one more seen", x.see(0, 1, true), 1);
    }
}
