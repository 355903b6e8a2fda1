/** A stile between two parishes: one may carry over only what is worse than what he carried last. */
public final class WorseStile {
    public static final int NONE = -1, UNKNOWN = -101, OUTSIDE = -102, STATE = -103, FULL = -104;

    private static final int LEAST_THINGS = 2, MOST_THINGS = 8, MOST_PEOPLE = 4;
    private static final int LEAST_CODE = 32, MOST_CODE = 126, MOST_LETTERS = 44;
    private static final int MOST_DIGIT = 9, MOST_CARRIED = 99, MOST_MILES = 900, MOST_SEEN = 8;
    private static final int MILES_ROUND = 9, MOST_HOPE_DAYS = 4, MOST_DAYS = 60;
    private static final int THING_LAST = 9, PERSON_ROW = 6, COUNT_LAST = 11;
    private static final int FIRST_PLACE = 10, LAST_PLACE = 17;
    private static final int DIGEST_SEED = 1181, DIGEST_HOPE_DAYS = 3;

    private static final Kind[] KINDS = Kind.values();

    private final Page page = new Page();
    private final Parishes now = new Parishes();
    private final Parishes kept = new Parishes();
    private final Parishes trial = new Parishes();
    private final Judge judge = new Judge();
    private boolean hasImage;
    private int reads;

    public WorseStile() {
    }

    // ---- the stile

    public int letter(int code) {
        if (code < LEAST_CODE || code > MOST_CODE) {
            return OUTSIDE;
        }
        if (page.length >= MOST_LETTERS) {
            return FULL;
        }
        page.write(code);
        return page.length;
    }

    public int blank() {
        int had = page.length;
        page.length = 0;
        return had;
    }

    public int fault() {
        return page.faultPlace();
    }

    public int stile() {
        if (!page.isWhole()) {
            return STATE;
        }
        now.readFrom(page);
        page.length = 0;
        hasImage = false;
        reads++;
        return now.things;
    }

    // ---- things, people

    public int thing(int thing, int what) {
        if (!now.hasThing(thing)) {
            return UNKNOWN;
        }
        switch (what) {
            case 0: return now.kind[thing];
            case 1: return now.shine[thing];
            case 2: return now.weight[thing];
            case 3: return now.side[thing];
            case 4: return now.litShine(thing);
            case 5: return now.weight[thing];
            case 6: return now.worseThan(thing);
            case 7: return now.betterThan(thing);
            case 8: return now.possibleShines(thing);
            case THING_LAST: return now.bestHold(thing, now.possibleShines(thing));
            default: return OUTSIDE;
        }
    }

    public int as(int thing, int kind) {
        if (!now.hasThing(thing)) {
            return UNKNOWN;
        }
        if (kind < 0 || kind >= KINDS.length) {
            return OUTSIDE;
        }
        return now.kindOfThing(thing).isA(KINDS[kind]) ? thing : NONE;
    }

    public int person(int person, int what) {
        if (!now.hasPerson(person)) {
            return UNKNOWN;
        }
        switch (what) {
            case 0: return now.standing[person];
            case 1: return now.carried[person];
            case 2: return now.lastShine[person];
            case 3: return now.lastWeight[person];
            case 4: return now.miles[person];
            case 5: return now.allowed(person);
            default: break;
        }
        if (what != PERSON_ROW && !isPlace(what)) {
            return OUTSIDE;
        }
        judge.lookAt(now);
        judge.findRow(now.allowed(person));
        return tellRow(what);
    }

    // ---- what is done

    public int carry(int person, int thing) {
        if (!now.hasPerson(person) || !now.hasThing(thing)) {
            return UNKNOWN;
        }
        if (now.side[thing] != now.standing[person] || !now.mayCarry(person, thing)) {
            return STATE;
        }
        if (now.carried[person] >= MOST_CARRIED) {
            return FULL;
        }
        now.takeOver(person, thing);
        return now.carried[person];
    }

    public int cross(int person) {
        if (!now.hasPerson(person)) {
            return UNKNOWN;
        }
        now.goOver(person);
        return now.standing[person];
    }

    public int round(int person, int thing) {
        if (!now.hasPerson(person) || (thing != NONE && !now.hasThing(thing))) {
            return UNKNOWN;
        }
        if (thing != NONE && now.side[thing] != now.standing[person]) {
            return STATE;
        }
        if (now.miles[person] + MILES_ROUND > MOST_MILES) {
            return FULL;
        }
        now.goRound(person, thing);
        return now.miles[person];
    }

    public int polish(int thing, int shine, int weight) {
        if (!now.hasThing(thing)) {
            return UNKNOWN;
        }
        if (shine < 0 || shine > MOST_DIGIT || weight < 0 || weight > MOST_DIGIT) {
            return OUTSIDE;
        }
        int shone = now.shine[thing];
        now.shine[thing] = shine;
        now.weight[thing] = weight;
        return shone;
    }

    public int forgive(int person) {
        if (!now.hasPerson(person)) {
            return UNKNOWN;
        }
        if (now.lastShine[person] == NONE) {
            return STATE;
        }
        now.forgetLast(person);
        return now.carried[person];
    }

    // ---- what would be

    public int worse(int a, int b) {
        if (!now.hasThing(a) || !now.hasThing(b)) {
            return UNKNOWN;
        }
        return now.isWorse(a, b) ? 1 : 0;
    }

    public int width(int what) {
        if (what < 0 || what > 1) {
            return OUTSIDE;
        }
        if (now.things == 0) {
            return STATE;
        }
        judge.lookAt(now);
        judge.findWidth();
        return tellWidth(what);
    }

    public int parts(int what) {
        if (what != 0 && !isPlace(what)) {
            return OUTSIDE;
        }
        if (now.things == 0) {
            return STATE;
        }
        judge.lookAt(now);
        judge.findWidth();
        judge.findParts();
        return tellParts(what);
    }

    public int hope(int days, int what) {
        if (days < 1 || days > MOST_HOPE_DAYS || what < 0 || what > 1) {
            return OUTSIDE;
        }
        if (now.things == 0) {
            return STATE;
        }
        judge.lookAt(now);
        judge.findHope(days);
        return tellHope(what);
    }

    public int game(int what) {
        if (what < 0 || what > 1) {
            return OUTSIDE;
        }
        if (now.things == 0) {
            return STATE;
        }
        judge.lookAt(now);
        return tellGame(what);
    }

    // ---- what is seen

    public int see(int thing, int other, boolean worse) {
        if (!now.hasThing(thing) || !now.hasThing(other) || thing == other) {
            return UNKNOWN;
        }
        if (now.seen >= MOST_SEEN) {
            return FULL;
        }
        now.noteSeen(thing, other, worse);
        return now.seen;
    }

    public int forget() {
        int had = now.seen;
        now.seen = 0;
        return had;
    }

    public int days(int days, int seed, int what) {
        if (days < 1 || days > MOST_DAYS || seed < 0 || what < 0 || what > 2) {
            return OUTSIDE;
        }
        if (now.things == 0) {
            return STATE;
        }
        trial.copyFrom(now);
        int drawn = seed;
        int carries = 0;
        for (int day = 0; day < days; day++) {
            drawn = nextSeed(drawn);
            int person = draw(drawn, trial.people);
            drawn = nextSeed(drawn);
            int thing = draw(drawn, trial.things);
            if (trial.runErrand(person, thing)) {
                carries++;
            }
        }
        if (what == 2) {
            return drawn;
        }
        return what == 0 ? carries : (days - carries) * MILES_ROUND;
    }

    // ---- what is told of all

    public int image() {
        if (now.things == 0) {
            return STATE;
        }
        kept.copyFrom(now);
        hasImage = true;
        return kept.sumOfPeople(kept.carried);
    }

    public int restore() {
        if (!hasImage) {
            return STATE;
        }
        now.copyFrom(kept);
        return now.sumOfPeople(now.carried);
    }

    public int count(int what) {
        switch (what) {
            case 0: return now.things;
            case 1: return now.people;
            case 2: return now.sumOfThings(now.side);
            case 3: return now.sumOfPeople(now.standing);
            case 4: return now.sumOfPeople(now.carried);
            case 5: return now.sumOfPeople(now.miles);
            case 6: return now.sumOfThings(now.shine);
            case 7: return now.sumOfThings(now.weight);
            case 8: return now.worseTwos();
            case 9: return now.seen;
            case 10: return page.length;
            case COUNT_LAST: return reads;
            default: return OUTSIDE;
        }
    }

    public long digest() {
        long h = DIGEST_SEED;
        for (int thing = 0; thing < now.things; thing++) {
            for (int what = 0; what <= THING_LAST; what++) {
                h = mix(h, thing(thing, what));
            }
        }
        if (now.things > 0) {
            judge.lookAt(now);
            h = mixPeople(h);
            h = mixWouldBe(h);
        }
        for (int place = 0; place < page.length; place++) {
            h = mix(h, page.codes[place]);
        }
        for (int what = 0; what <= COUNT_LAST; what++) {
            h = mix(h, count(what));
        }
        return h;
    }

    // The judge must have looked at what is now.
    private long mixPeople(long start) {
        long h = start;
        for (int person = 0; person < now.people; person++) {
            for (int what = 0; what < PERSON_ROW; what++) {
                h = mix(h, person(person, what));
            }
            judge.findRow(now.allowed(person));
            h = mix(h, tellRow(PERSON_ROW));
            for (int what = FIRST_PLACE; what <= LAST_PLACE; what++) {
                h = mix(h, tellRow(what));
            }
        }
        return h;
    }

    // The judge must have looked at what is now.
    private long mixWouldBe(long start) {
        judge.findWidth();
        long h = mix(mix(start, tellWidth(0)), tellWidth(1));
        judge.findParts();
        h = mix(h, tellParts(0));
        for (int what = FIRST_PLACE; what <= LAST_PLACE; what++) {
            h = mix(h, tellParts(what));
        }
        judge.findHope(DIGEST_HOPE_DAYS);
        h = mix(mix(h, tellHope(0)), tellHope(1));
        return mix(mix(h, tellGame(0)), tellGame(1));
    }

    private static long mix(long h, int told) {
        return 31L * h + (long) told;
    }

    private static boolean isPlace(int what) {
        return what >= FIRST_PLACE && what <= LAST_PLACE;
    }

    private int tellRow(int what) {
        if (!isPlace(what)) {
            return judge.rowLength;
        }
        int place = what - FIRST_PLACE;
        return place < judge.rowLength ? judge.row[place] : NONE;
    }

    private int tellWidth(int what) {
        return what == 0 ? judge.width : judge.widest;
    }

    private int tellParts(int what) {
        if (!isPlace(what)) {
            return judge.carriers;
        }
        int thing = what - FIRST_PLACE;
        return thing < judge.things ? judge.carrier[thing] : NONE;
    }

    private int tellHope(int what) {
        return what == 0 ? judge.hopeAbove : judge.hopeBelow;
    }

    private int tellGame(int what) {
        int winner = judge.winner();
        if (what == 1) {
            return winner;
        }
        return winner == NONE ? 0 : 1;
    }

    private static int nextSeed(int seed) {
        return (int) ((1103515245L * (long) seed + 12345L) & 0x7fffffffL);
    }

    private static int draw(int seed, int many) {
        return many < 1 ? 0 : (seed / 65536) % many;
    }

    private static int kindOf(int code) {
        for (int i = 0; i < KINDS.length; i++) {
            if (KINDS[i].code == code) {
                return i;
            }
        }
        return NONE;
    }

    /** What a THING is: how it looks in the LIGHT and what a crossing does to it. */
    private enum Kind {
        THING('t'),
        LIMP('l') {
            int litShine(int shine) {
                return 0;
            }
        },
        QUARREL('q') {
            int shineOver(int shine) {
                return oneLess(shine);
            }
        },
        NEWS('n') {
            int shineOver(int shine) {
                return shine / 2;
            }

            int weightOver(int weight) {
                return weight / 2;
            }
        },
        SULK('s') {
            int shineOver(int shine) {
                return QUARREL.shineOver(shine);
            }

            int weightOver(int weight) {
                return oneLess(weight);
            }

            boolean isA(Kind other) {
                return other == this || QUARREL.isA(other);
            }
        };

        // The letter that tells it.
        final int code;

        Kind(int code) {
            this.code = code;
        }

        int litShine(int shine) {
            return shine;
        }

        int shineOver(int shine) {
            return shine;
        }

        int weightOver(int weight) {
            return weight;
        }

        boolean isA(Kind other) {
            return other == this || other == THING;
        }

        static int oneLess(int digit) {
            return digit > 0 ? digit - 1 : 0;
        }
    }

    /** THE PAGE, and how far it reads as a STILE. */
    private static final class Page {
        // A THING takes four letters, and the sign behind it the fifth.
        private static final int STEP = 5;

        private final int[] codes = new int[MOST_LETTERS];
        private int length;

        private void write(int code) {
            codes[length] = code;
            length++;
        }

        private int faultPlace() {
            int end = NONE;
            for (int place = 0; place < length; place++) {
                if (!fits(place, end)) {
                    return place;
                }
                if (codes[place] == ';') {
                    end = place;
                }
            }
            return length;
        }

        // end is where ';' stands, NONE if it has not come yet.
        private boolean fits(int place, int end) {
            int code = codes[place];
            if (end != NONE) {
                return place == end + 1 && code >= '1' && code <= '0' + MOST_PEOPLE;
            }
            switch (place % STEP) {
                case 0: return kindOf(code) != NONE;
                case 1: case 2: return code >= '0' && code <= '9';
                case 3: return code == '0' || code == '1';
                default: return mayFollow(code, place / STEP + 1);
            }
        }

        private static boolean mayFollow(int code, int things) {
            if (code == ';') {
                return things >= LEAST_THINGS;
            }
            return code == ',' && things < MOST_THINGS;
        }

        private boolean isWhole() {
            return length >= 2 && codes[length - 2] == ';' && faultPlace() == length;
        }

        private int things() {
            return length / STEP;
        }

        private int kindAt(int thing) {
            return Math.max(kindOf(codes[thing * STEP]), 0);
        }

        private int digitAt(int thing, int place) {
            return codes[thing * STEP + place] - '0';
        }

        private int people() {
            return codes[length - 1] - '0';
        }
    }

    /** All THINGS and PEOPLE on both sides, and what is SEEN. */
    private static final class Parishes {
        private int things;
        // Places in KINDS.
        private final int[] kind = new int[MOST_THINGS];
        private final int[] shine = new int[MOST_THINGS];
        private final int[] weight = new int[MOST_THINGS];
        private final int[] side = new int[MOST_THINGS];
        private int people;
        private final int[] standing = new int[MOST_PEOPLE];
        private final int[] carried = new int[MOST_PEOPLE];
        // NONE in both: he carried nothing yet, or it is forgotten.
        private final int[] lastShine = new int[MOST_PEOPLE];
        private final int[] lastWeight = new int[MOST_PEOPLE];
        private final int[] miles = new int[MOST_PEOPLE];
        private int seen;
        private final int[] seenThing = new int[MOST_SEEN];
        private final int[] seenOther = new int[MOST_SEEN];
        private final boolean[] seenWorse = new boolean[MOST_SEEN];

        // The page must be whole.
        private void readFrom(Page page) {
            things = page.things();
            for (int i = 0; i < things; i++) {
                kind[i] = page.kindAt(i);
                shine[i] = page.digitAt(i, 1);
                weight[i] = page.digitAt(i, 2);
                side[i] = page.digitAt(i, 3);
            }
            people = page.people();
            for (int i = 0; i < people; i++) {
                standing[i] = 0;
                carried[i] = 0;
                miles[i] = 0;
                forgetLast(i);
            }
            seen = 0;
        }

        private void copyFrom(Parishes other) {
            things = other.things;
            for (int i = 0; i < things; i++) {
                kind[i] = other.kind[i];
                shine[i] = other.shine[i];
                weight[i] = other.weight[i];
                side[i] = other.side[i];
            }
            people = other.people;
            for (int i = 0; i < people; i++) {
                standing[i] = other.standing[i];
                carried[i] = other.carried[i];
                lastShine[i] = other.lastShine[i];
                lastWeight[i] = other.lastWeight[i];
                miles[i] = other.miles[i];
            }
            seen = other.seen;
            for (int i = 0; i < seen; i++) {
                seenThing[i] = other.seenThing[i];
                seenOther[i] = other.seenOther[i];
                seenWorse[i] = other.seenWorse[i];
            }
        }

        private boolean hasThing(int i) {
            return i >= 0 && i < things;
        }

        private boolean hasPerson(int i) {
            return i >= 0 && i < people;
        }

        private Kind kindOfThing(int i) {
            return KINDS[kind[i]];
        }

        private int litShine(int i) {
            return kindOfThing(i).litShine(shine[i]);
        }

        private static boolean isLess(int shineA, int weightA, int shineB, int weightB) {
            return shineA <= shineB && weightA <= weightB && (shineA < shineB || weightA < weightB);
        }

        private boolean isWorse(int a, int b) {
            return isLess(litShine(a), weight[a], litShine(b), weight[b]);
        }

        private int worseThan(int i) {
            int bits = 0;
            for (int other = 0; other < things; other++) {
                if (isWorse(other, i)) {
                    bits |= 1 << other;
                }
            }
            return bits;
        }

        private int betterThan(int i) {
            int bits = 0;
            for (int other = 0; other < things; other++) {
                if (isWorse(i, other)) {
                    bits |= 1 << other;
                }
            }
            return bits;
        }

        private int worseTwos() {
            int twos = 0;
            for (int i = 0; i < things; i++) {
                twos += Integer.bitCount(worseThan(i));
            }
            return twos;
        }

        private boolean mayCarry(int person, int i) {
            return lastShine[person] == NONE
                    || isLess(litShine(i), weight[i], lastShine[person], lastWeight[person]);
        }

        private int allowed(int person) {
            int bits = 0;
            for (int i = 0; i < things; i++) {
                if (mayCarry(person, i)) {
                    bits |= 1 << i;
                }
            }
            return bits;
        }

        private void goOver(int person) {
            standing[person] = 1 - standing[person];
        }

        private void takeOver(int person, int i) {
            // He is measured by how it was ahead of going over, so this comes ahead of the wear.
            lastShine[person] = litShine(i);
            lastWeight[person] = weight[i];
            carried[person]++;
            goOver(person);
            side[i] = standing[person];
            shine[i] = kindOfThing(i).shineOver(shine[i]);
            weight[i] = kindOfThing(i).weightOver(weight[i]);
        }

        private void goRound(int person, int i) {
            miles[person] += MILES_ROUND;
            goOver(person);
            if (i != NONE) {
                side[i] = standing[person];
            }
        }

        // Whether it was carried; else he went round with it.
        private boolean runErrand(int person, int i) {
            if (side[i] != standing[person]) {
                goOver(person);
            }
            if (mayCarry(person, i)) {
                takeOver(person, i);
                return true;
            }
            goRound(person, i);
            return false;
        }

        private void forgetLast(int person) {
            lastShine[person] = NONE;
            lastWeight[person] = NONE;
        }

        private void noteSeen(int i, int other, boolean isWorse) {
            seenThing[seen] = i;
            seenOther[seen] = other;
            seenWorse[seen] = isWorse;
            seen++;
        }

        private boolean wouldBeWorse(int i, int itsShine, int other) {
            return isLess(kindOfThing(i).litShine(itsShine), weight[i], litShine(other), weight[other]);
        }

        private boolean agreesWithSeen(int i, int itsShine) {
            for (int n = 0; n < seen; n++) {
                if (seenThing[n] == i && wouldBeWorse(i, itsShine, seenOther[n]) != seenWorse[n]) {
                    return false;
                }
            }
            return true;
        }

        private int possibleShines(int i) {
            int bits = 0;
            for (int itsShine = 0; itsShine <= MOST_DIGIT; itsShine++) {
                if (agreesWithSeen(i, itsShine)) {
                    bits |= 1 << itsShine;
                }
            }
            return bits;
        }

        private int bestHold(int i, int possible) {
            if (possible == 0) {
                return NONE;
            }
            int best = NONE;
            int fewest = MOST_DIGIT + 2;
            for (int other = 0; other < things; other++) {
                int left = other == i ? fewest : leftAtWorst(i, other, possible);
                if (left < fewest) {
                    fewest = left;
                    best = other;
                }
            }
            return best;
        }

        private int leftAtWorst(int i, int other, int possible) {
            int ifWorse = 0;
            for (int itsShine = 0; itsShine <= MOST_DIGIT; itsShine++) {
                if ((possible >> itsShine & 1) == 1 && wouldBeWorse(i, itsShine, other)) {
                    ifWorse++;
                }
            }
            return Math.max(ifWorse, Integer.bitCount(possible) - ifWorse);
        }

        private int sumOfThings(int[] numbers) {
            int sum = 0;
            for (int i = 0; i < things && i < numbers.length; i++) {
                sum += numbers[i];
            }
            return sum;
        }

        private int sumOfPeople(int[] numbers) {
            int sum = 0;
            for (int i = 0; i < people && i < numbers.length; i++) {
                sum += numbers[i];
            }
            return sum;
        }
    }

    /** What would be, if all THINGS stayed as they were when he looked. */
    private static final class Judge {
        private int things;
        // Bits of those that are worse; behind the things, all: what may follow nothing.
        private final int[] below = new int[MOST_THINGS + 1];
        // How many the longest row has that begins with it.
        private final int[] height = new int[MOST_THINGS];
        private int rowLength;
        private final int[] row = new int[MOST_THINGS];
        private int width;
        private int widest;
        private int carriers;
        private final int[] carrier = new int[MOST_THINGS];
        private final int[] load = new int[MOST_THINGS];
        // By what was carried last, behind the things: nothing.
        private final int[] hoped = new int[MOST_THINGS + 1];
        private final int[] hopedAhead = new int[MOST_THINGS + 1];
        private int hopeAbove;
        private int hopeBelow;

        private void lookAt(Parishes parishes) {
            things = parishes.things;
            for (int i = 0; i < things; i++) {
                below[i] = parishes.worseThan(i);
            }
            below[things] = all();
            measureHeights();
        }

        private int all() {
            return (1 << things) - 1;
        }

        // Takes away, again and again, those with nothing left below them.
        private void measureHeights() {
            int left = all();
            for (int level = 1; level <= things; level++) {
                int lowest = 0;
                for (int i = 0; i < things; i++) {
                    if ((left >> i & 1) == 1 && (below[i] & left) == 0) {
                        lowest |= 1 << i;
                        height[i] = level;
                    }
                }
                left &= ~lowest;
            }
        }

        private void findRow(int mayBeFirst) {
            rowLength = 0;
            int next = mayBeFirst & all();
            for (int place = 0; place < things && next != 0; place++) {
                int best = highest(next);
                row[place] = best;
                rowLength++;
                next = below[best];
            }
        }

        private int highest(int bits) {
            int best = 0;
            int most = 0;
            for (int i = 0; i < things; i++) {
                if ((bits >> i & 1) == 1 && height[i] > most) {
                    most = height[i];
                    best = i;
                }
            }
            return best;
        }

        private void findWidth() {
            width = 0;
            widest = 0;
            for (int bits = 0; bits <= all(); bits++) {
                int many = Integer.bitCount(bits);
                if (many > width && noneIsWorse(bits)) {
                    width = many;
                    widest = bits;
                }
            }
        }

        private boolean noneIsWorse(int bits) {
            for (int i = 0; i < things; i++) {
                if ((bits >> i & 1) == 1 && (below[i] & bits) != 0) {
                    return false;
                }
            }
            return true;
        }

        // As many rows as the width always suffice (Dilworth), and fewer never do; findWidth comes first.
        private void findParts() {
            carriers = width;
            for (int i = 0; i < things; i++) {
                carrier[i] = 0;
                load[i] = 0;
            }
            share(0, 0);
        }

        // Trying the lower numbers first finds the first answer by numbers.
        private boolean share(int thing, int met) {
            if (thing >= things) {
                return true;
            }
            for (int one = 0; one <= met && one < carriers; one++) {
                if (fitsLoad(thing, load[one])) {
                    carrier[thing] = one;
                    load[one] |= 1 << thing;
                    if (share(thing + 1, one == met ? met + 1 : met)) {
                        return true;
                    }
                    load[one] &= ~(1 << thing);
                }
            }
            return false;
        }

        private boolean fitsLoad(int thing, int bits) {
            for (int i = 0; i < things; i++) {
                boolean isApart = (below[i] >> thing & 1) == 0 && (below[thing] >> i & 1) == 0;
                if ((bits >> i & 1) == 1 && isApart) {
                    return false;
                }
            }
            return true;
        }

        // All hopes of one round are over the same number, things to the power of the days.
        private void findHope(int days) {
            int over = 1;
            for (int last = 0; last <= things; last++) {
                hoped[last] = 0;
            }
            for (int day = 0; day < days; day++) {
                for (int last = 0; last <= things; last++) {
                    hopedAhead[last] = hopeWithOneMore(last, over);
                }
                for (int last = 0; last <= things; last++) {
                    hoped[last] = hopedAhead[last];
                }
                over *= things;
            }
            int common = commonDivisor(hoped[things], over);
            hopeAbove = hoped[things] / common;
            hopeBelow = over / common;
        }

        private int hopeWithOneMore(int last, int over) {
            int sum = 0;
            for (int wanted = 0; wanted < things; wanted++) {
                int best = hoped[last];
                if ((below[last] >> wanted & 1) == 1) {
                    best = Math.max(best, over + hoped[wanted]);
                }
                sum += best;
            }
            return sum;
        }

        private static int commonDivisor(int a, int b) {
            int more = a;
            int less = b;
            for (int turn = 0; turn < 64 && less != 0; turn++) {
                int rest = more % less;
                more = less;
                less = rest;
            }
            return Math.max(more, 1);
        }

        // WORSE goes on (what is worse than a worse one is worse), so whoever leaves any
        // below loses to a lowest of these: only a THING with none below wins.
        private int winner() {
            for (int i = 0; i < things; i++) {
                if (below[i] == 0) {
                    return i;
                }
            }
            return NONE;
        }
    }
}
