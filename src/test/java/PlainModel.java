import java.math.BigInteger;
import java.util.ArrayList;
import java.util.Arrays;
import java.util.List;
import java.util.regex.Matcher;
import java.util.regex.Pattern;

/** The document said again in the longest way: by lists, and by trying everything. */
final class PlainModel {
    private static final int NONE = -1, UNKNOWN = -101, OUTSIDE = -102, STATE = -103, FULL = -104;
    private static final String LETTERS = "tlqns";
    private static final Pattern STILE =
        Pattern.compile("[tlqns][0-9][0-9][01](,[tlqns][0-9][0-9][01]){1,7};[1-4]");

    private static final class Thing {
        char letter;
        int shine;
        int weight;
        int side;

        int[] light() {
            return new int[] {letter == 'l' ? 0 : shine, weight};
        }
    }

    private static final class Person {
        int side;
        int carried;
        int miles;
        int[] last;
    }

    private record Seen(int thing, int other, boolean worse) {
    }

    private record Fraction(BigInteger above, BigInteger below) {
        static Fraction of(long above, long below) {
            return new Fraction(BigInteger.valueOf(above), BigInteger.valueOf(below)).lowest();
        }

        Fraction lowest() {
            BigInteger common = above.gcd(below);
            return new Fraction(above.divide(common), below.divide(common));
        }

        Fraction plus(Fraction o) {
            return new Fraction(above.multiply(o.below).add(o.above.multiply(below)), below.multiply(o.below)).lowest();
        }

        Fraction over(long n) {
            return new Fraction(above, below.multiply(BigInteger.valueOf(n))).lowest();
        }

        boolean isLessThan(Fraction o) {
            return above.multiply(o.below).compareTo(o.above.multiply(below)) < 0;
        }
    }

    private static final class World {
        List<Thing> things = new ArrayList<>();
        List<Person> people = new ArrayList<>();
        List<Seen> seen = new ArrayList<>();

        World copy() {
            World w = new World();
            for (Thing t : things) {
                Thing u = new Thing();
                u.letter = t.letter;
                u.shine = t.shine;
                u.weight = t.weight;
                u.side = t.side;
                w.things.add(u);
            }
            for (Person p : people) {
                Person q = new Person();
                q.side = p.side;
                q.carried = p.carried;
                q.miles = p.miles;
                q.last = p.last == null ? null : p.last.clone();
                w.people.add(q);
            }
            w.seen.addAll(seen);
            return w;
        }
    }

    private String page = "";
    private World world = new World();
    private World image;
    private int reads;

    private boolean noThing(int i) {
        return i < 0 || i >= world.things.size();
    }

    private boolean noPerson(int i) {
        return i < 0 || i >= world.people.size();
    }

    private static boolean less(int[] a, int[] b) {
        boolean neitherMore = !(a[0] > b[0]) && !(a[1] > b[1]);
        return neitherMore && !Arrays.equals(a, b);
    }

    private boolean isWorse(int a, int b) {
        return less(world.things.get(a).light(), world.things.get(b).light());
    }

    private static boolean may(Person p, Thing t) {
        return p.last == null || less(t.light(), p.last);
    }

    int letter(int code) {
        if (code < 32 || code > 126) {
            return OUTSIDE;
        }
        if (page.length() == 44) {
            return FULL;
        }
        page += (char) code;
        return page.length();
    }

    int blank() {
        int had = page.length();
        page = "";
        return had;
    }

    int fault() {
        for (int end = 1; end <= page.length(); end++) {
            Matcher m = STILE.matcher(page.substring(0, end));
            if (!m.matches() && !m.hitEnd()) {
                return end - 1;
            }
        }
        return page.length();
    }

    int stile() {
        if (!STILE.matcher(page).matches()) {
            return STATE;
        }
        world = new World();
        String[] halves = page.split(";");
        for (String text : halves[0].split(",")) {
            Thing t = new Thing();
            t.letter = text.charAt(0);
            t.shine = Integer.parseInt(text.substring(1, 2));
            t.weight = Integer.parseInt(text.substring(2, 3));
            t.side = Integer.parseInt(text.substring(3));
            world.things.add(t);
        }
        for (int i = 0; i < Integer.parseInt(halves[1]); i++) {
            world.people.add(new Person());
        }
        page = "";
        image = null;
        reads++;
        return world.things.size();
    }

    int thing(int thing, int what) {
        if (noThing(thing)) {
            return UNKNOWN;
        }
        Thing t = world.things.get(thing);
        int bits = 0;
        switch (what) {
            case 0: return LETTERS.indexOf(t.letter);
            case 1: return t.shine;
            case 2: return t.weight;
            case 3: return t.side;
            case 4: return t.light()[0];
            case 5: return t.light()[1];
            case 6:
            case 7:
                for (int i = 0; i < world.things.size(); i++) {
                    if (what == 6 ? isWorse(i, thing) : isWorse(thing, i)) {
                        bits += 1 << i;
                    }
                }
                return bits;
            case 8:
                for (int shine : possible(thing)) {
                    bits += 1 << shine;
                }
                return bits;
            case 9: return hold(thing);
            default: return OUTSIDE;
        }
    }

    private boolean worseIf(int thing, int shine, int other) {
        Thing t = world.things.get(thing);
        int keep = t.shine;
        t.shine = shine;
        boolean worse = isWorse(thing, other);
        t.shine = keep;
        return worse;
    }

    private List<Integer> possible(int thing) {
        List<Integer> shines = new ArrayList<>();
        for (int shine = 0; shine < 10; shine++) {
            boolean so = true;
            for (Seen s : world.seen) {
                so &= s.thing != thing || worseIf(thing, shine, s.other) == s.worse;
            }
            if (so) {
                shines.add(shine);
            }
        }
        return shines;
    }

    private int hold(int thing) {
        List<Integer> shines = possible(thing);
        int best = NONE;
        int fewest = 99;
        for (int other = 0; other < world.things.size(); other++) {
            int yes = 0;
            int no = 0;
            for (int shine : shines) {
                if (worseIf(thing, shine, other)) {
                    yes++;
                } else {
                    no++;
                }
            }
            if (other != thing && Math.max(yes, no) < fewest) {
                fewest = Math.max(yes, no);
                best = other;
            }
        }
        return shines.isEmpty() ? NONE : best;
    }

    int as(int thing, int kind) {
        if (noThing(thing)) {
            return UNKNOWN;
        }
        if (kind < 0 || kind > 4) {
            return OUTSIDE;
        }
        char letter = world.things.get(thing).letter;
        boolean is = kind == 0 || LETTERS.indexOf(letter) == kind || kind == 2 && letter == 's';
        return is ? thing : NONE;
    }

    int person(int person, int what) {
        if (noPerson(person)) {
            return UNKNOWN;
        }
        Person p = world.people.get(person);
        switch (what) {
            case 0: return p.side;
            case 1: return p.carried;
            case 2: return p.last == null ? NONE : p.last[0];
            case 3: return p.last == null ? NONE : p.last[1];
            case 4: return p.miles;
            case 5:
                int bits = 0;
                for (int i = 0; i < world.things.size(); i++) {
                    bits += may(p, world.things.get(i)) ? 1 << i : 0;
                }
                return bits;
            default: break;
        }
        if (what != 6 && (what < 10 || what > 17)) {
            return OUTSIDE;
        }
        List<Integer> row = longest(p.last);
        if (what == 6) {
            return row.size();
        }
        return what - 10 < row.size() ? row.get(what - 10) : NONE;
    }

    private List<Integer> longest(int[] ahead) {
        List<Integer> best = new ArrayList<>();
        for (int i = 0; i < world.things.size(); i++) {
            int[] light = world.things.get(i).light();
            if (ahead == null || less(light, ahead)) {
                List<Integer> row = longest(light);
                row.add(0, i);
                if (row.size() > best.size()) {
                    best = row;
                }
            }
        }
        return best;
    }

    private static void over(Person p, Thing t) {
        p.side = p.side == 0 ? 1 : 0;
        if (t != null) {
            t.side = p.side;
        }
    }

    private static void carryOver(Person p, Thing t) {
        p.last = t.light();
        p.carried++;
        over(p, t);
        if (t.letter == 'q' || t.letter == 's') {
            t.shine = t.shine == 0 ? 0 : t.shine - 1;
        }
        if (t.letter == 's') {
            t.weight = t.weight == 0 ? 0 : t.weight - 1;
        }
        if (t.letter == 'n') {
            t.shine = t.shine / 2;
            t.weight = t.weight / 2;
        }
    }

    int carry(int person, int thing) {
        if (noPerson(person) || noThing(thing)) {
            return UNKNOWN;
        }
        Person p = world.people.get(person);
        Thing t = world.things.get(thing);
        if (t.side != p.side || !may(p, t)) {
            return STATE;
        }
        if (p.carried == 99) {
            return FULL;
        }
        carryOver(p, t);
        return p.carried;
    }

    int cross(int person) {
        if (noPerson(person)) {
            return UNKNOWN;
        }
        over(world.people.get(person), null);
        return world.people.get(person).side;
    }

    int round(int person, int thing) {
        if (noPerson(person) || thing != NONE && noThing(thing)) {
            return UNKNOWN;
        }
        Person p = world.people.get(person);
        Thing t = thing == NONE ? null : world.things.get(thing);
        if (t != null && t.side != p.side) {
            return STATE;
        }
        if (p.miles + 9 > 900) {
            return FULL;
        }
        p.miles += 9;
        over(p, t);
        return p.miles;
    }

    int polish(int thing, int shine, int weight) {
        if (noThing(thing)) {
            return UNKNOWN;
        }
        if (shine < 0 || shine > 9 || weight < 0 || weight > 9) {
            return OUTSIDE;
        }
        Thing t = world.things.get(thing);
        int shone = t.shine;
        t.shine = shine;
        t.weight = weight;
        return shone;
    }

    int forgive(int person) {
        if (noPerson(person)) {
            return UNKNOWN;
        }
        Person p = world.people.get(person);
        if (p.last == null) {
            return STATE;
        }
        p.last = null;
        return p.carried;
    }

    int worse(int a, int b) {
        if (noThing(a) || noThing(b)) {
            return UNKNOWN;
        }
        return isWorse(a, b) ? 1 : 0;
    }

    int width(int what) {
        if (what != 0 && what != 1) {
            return OUTSIDE;
        }
        int n = world.things.size();
        if (n == 0) {
            return STATE;
        }
        int best = 0;
        for (int bits = (1 << n) - 1; bits > 0; bits--) {
            boolean apart = true;
            for (int a = 0; a < n; a++) {
                for (int b = 0; b < n; b++) {
                    apart &= (bits >> a & 1) == 0 || (bits >> b & 1) == 0 || !isWorse(a, b);
                }
            }
            if (apart && Integer.bitCount(bits) >= Integer.bitCount(best)) {
                best = bits;
            }
        }
        return what == 0 ? Integer.bitCount(best) : best;
    }

    int parts(int what) {
        if (what != 0 && (what < 10 || what > 17)) {
            return OUTSIDE;
        }
        if (world.things.isEmpty()) {
            return STATE;
        }
        List<Integer> best = fewest(new ArrayList<>());
        if (what == 0) {
            return met(best);
        }
        return what - 10 < best.size() ? best.get(what - 10) : NONE;
    }

    private static int met(List<Integer> by) {
        int most = 0;
        for (int one : by) {
            most = Math.max(most, one + 1);
        }
        return most;
    }

    // All ways to go on from those shared out already, in order; the first of the fewest.
    private List<Integer> fewest(List<Integer> by) {
        int thing = by.size();
        if (thing == world.things.size()) {
            return new ArrayList<>(by);
        }
        List<Integer> best = null;
        for (int one = 0; one <= met(by); one++) {
            boolean can = true;
            for (int i = 0; i < thing; i++) {
                can &= by.get(i) != one || isWorse(i, thing) || isWorse(thing, i);
            }
            if (can) {
                by.add(one);
                List<Integer> found = fewest(by);
                by.remove(thing);
                if (best == null || met(found) < met(best)) {
                    best = found;
                }
            }
        }
        return best;
    }

    int hope(int days, int what) {
        if (days < 1 || days > 4 || what < 0 || what > 1) {
            return OUTSIDE;
        }
        if (world.things.isEmpty()) {
            return STATE;
        }
        Fraction f = mean(days, null);
        return (what == 0 ? f.above : f.below).intValueExact();
    }

    private Fraction mean(int days, int[] last) {
        Fraction sum = Fraction.of(0, 1);
        if (days == 0) {
            return sum;
        }
        Fraction lets = null;
        for (Thing t : world.things) {
            lets = lets == null ? mean(days - 1, last) : lets;
            Fraction best = lets;
            if (last == null || less(t.light(), last)) {
                Fraction takes = mean(days - 1, t.light()).plus(Fraction.of(1, 1));
                best = best.isLessThan(takes) ? takes : best;
            }
            sum = sum.plus(best);
        }
        return sum.over(world.things.size());
    }

    int game(int what) {
        if (what != 0 && what != 1) {
            return OUTSIDE;
        }
        if (world.things.isEmpty()) {
            return STATE;
        }
        int by = namesToWin(null);
        return what == 1 ? by : by == NONE ? 0 : 1;
    }

    private int namesToWin(int[] ahead) {
        for (int i = 0; i < world.things.size(); i++) {
            int[] light = world.things.get(i).light();
            if ((ahead == null || less(light, ahead)) && namesToWin(light) == NONE) {
                return i;
            }
        }
        return NONE;
    }

    int see(int thing, int other, boolean worse) {
        if (noThing(thing) || noThing(other) || thing == other) {
            return UNKNOWN;
        }
        if (world.seen.size() == 8) {
            return FULL;
        }
        world.seen.add(new Seen(thing, other, worse));
        return world.seen.size();
    }

    int forget() {
        int had = world.seen.size();
        world.seen.clear();
        return had;
    }

    int days(int days, int seed, int what) {
        if (days < 1 || days > 60 || seed < 0 || what < 0 || what > 2) {
            return OUTSIDE;
        }
        if (world.things.isEmpty()) {
            return STATE;
        }
        World w = world.copy();
        long s = seed;
        int often = 0;
        int miles = 0;
        for (int i = 0; i < days; i++) {
            s = next(s);
            Person p = w.people.get((int) (s / 65536 % w.people.size()));
            s = next(s);
            Thing t = w.things.get((int) (s / 65536 % w.things.size()));
            if (t.side != p.side) {
                over(p, null);
            }
            if (may(p, t)) {
                carryOver(p, t);
                often++;
            } else {
                over(p, t);
                miles += 9;
            }
        }
        return what == 0 ? often : what == 1 ? miles : (int) s;
    }

    private static long next(long seed) {
        return BigInteger.valueOf(1103515245).multiply(BigInteger.valueOf(seed)).add(BigInteger.valueOf(12345))
            .mod(BigInteger.TWO.pow(31)).longValueExact();
    }

    int image() {
        if (world.things.isEmpty()) {
            return STATE;
        }
        image = world.copy();
        return count(4);
    }

    int restore() {
        if (image == null) {
            return STATE;
        }
        world = image.copy();
        return count(4);
    }

    int count(int what) {
        int sum = 0;
        for (Thing t : world.things) {
            sum += what == 2 ? t.side : what == 6 ? t.shine : what == 7 ? t.weight : 0;
        }
        for (Person p : world.people) {
            sum += what == 3 ? p.side : what == 4 ? p.carried : what == 5 ? p.miles : 0;
        }
        for (int a = 0; what == 8 && a < world.things.size(); a++) {
            for (int b = 0; b < a; b++) {
                sum += isWorse(a, b) || isWorse(b, a) ? 1 : 0;
            }
        }
        switch (what) {
            case 0: return world.things.size();
            case 1: return world.people.size();
            case 9: return world.seen.size();
            case 10: return page.length();
            case 11: return reads;
            default: return what < 0 || what > 11 ? OUTSIDE : sum;
        }
    }

    long digest() {
        List<Integer> told = new ArrayList<>();
        for (int i = 0; i < world.things.size(); i++) {
            for (int what = 0; what <= 9; what++) {
                told.add(thing(i, what));
            }
        }
        for (int i = 0; i < world.people.size(); i++) {
            for (int what = 0; what <= 17; what++) {
                if (what <= 6 || what >= 10) {
                    told.add(person(i, what));
                }
            }
        }
        if (!world.things.isEmpty()) {
            told.addAll(List.of(width(0), width(1), parts(0)));
            for (int what = 10; what <= 17; what++) {
                told.add(parts(what));
            }
            told.addAll(List.of(hope(3, 0), hope(3, 1), game(0), game(1)));
        }
        for (char c : page.toCharArray()) {
            told.add((int) c);
        }
        for (int what = 0; what <= 11; what++) {
            told.add(count(what));
        }
        long h = 1181;
        for (int n : told) {
            h = 31 * h + n;
        }
        return h;
    }
}
