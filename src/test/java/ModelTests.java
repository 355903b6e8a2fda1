import java.util.Random;

/** Long runs of calls, drawn from fixed seeds, held against the plain model. */
public final class ModelTests {
    private static final int[] ODD =
        {-1, -2, 0, 1, 7, 8, 9, 10, 17, 18, 44, 60, 61, Integer.MIN_VALUE, Integer.MAX_VALUE};

    private final Random random;
    private final WorseStile x = new WorseStile();
    private final PlainModel m = new PlainModel();
    private String run;

    private ModelTests(long seed) {
        random = new Random(seed);
        run = "run " + seed;
    }

    public static void main(String[] args) {
        for (int seed = 1; seed <= 250; seed++) {
            new ModelTests(seed).play(400);
        }
        Due.end("ModelTests");
    }

    private int below(int bound) {
        return random.nextInt(bound);
    }

    // Mostly a number below the bound, at times an odd one.
    private int some(int bound) {
        return below(12) == 0 ? ODD[below(ODD.length)] : below(bound);
    }

    private void due(String call, long got, long want) {
        Due.due(run + ": " + call, got, want);
    }

    private void play(int calls) {
        for (int n = 0; n < calls; n++) {
            run = run.replaceAll(" call.*", "") + " call " + n;
            if (n % 60 == 5) {
                page(stileText());
                due("stile()", x.stile(), m.stile());
            } else {
                oneCall(below(26));
            }
            if (n % 10 == 0) {
                due("digest()", x.digest(), m.digest());
            }
        }
        due("digest()", x.digest(), m.digest());
    }

    private void page(String text) {
        due("blank()", x.blank(), m.blank());
        for (char c : text.toCharArray()) {
            due("letter(" + c + ")", x.letter(c), m.letter(c));
        }
        due("fault() of " + text, x.fault(), m.fault());
    }

    private String stileText() {
        StringBuilder text = new StringBuilder();
        int things = 2 + below(7);
        int range = below(2) == 0 ? 10 : 4;
        for (int i = 0; i < things; i++) {
            text.append(i == 0 ? "" : ",").append("tlqns".charAt(below(5)));
            text.append(below(range)).append(below(range)).append(below(2));
        }
        return text.append(';').append(1 + below(4)).toString();
    }

    private String spoilt(String text) {
        StringBuilder spoilt = new StringBuilder(text);
        spoilt.setCharAt(below(text.length()), "tlqns0123459,;x ~".charAt(below(17)));
        return spoilt.substring(0, 1 + below(spoilt.length()));
    }

    private void oneCall(int call) {
        int a = some(9);
        int b = some(10);
        int c = some(10);
        int person = some(4);
        String of = "(" + a + ", " + b + ", " + c + ", " + person + ")";
        switch (call) {
            case 0: due("letter" + of, x.letter(c + 50), m.letter(c + 50)); break;
            case 1: page(spoilt(stileText())); break;
            case 2: due("stile", x.stile(), m.stile()); break;
            case 3: due("thing" + of, x.thing(a, b), m.thing(a, b)); break;
            case 4: due("as" + of, x.as(a, b), m.as(a, b)); break;
            default: more(call, a, b, c, person, of);
        }
    }

    private void more(int call, int a, int b, int c, int person, String of) {
        int place = below(2) == 0 ? some(7) : 10 + below(9);
        boolean flag = below(2) == 0;
        int seed = below(8) == 0 ? some(3) : random.nextInt() & 0x7fffffff;
        switch (call) {
            case 5: due("person " + person + " " + place, x.person(person, place), m.person(person, place)); break;
            case 6: case 7: case 8: due("carry" + of, x.carry(person, a), m.carry(person, a)); break;
            case 9: due("cross" + of, x.cross(person), m.cross(person)); break;
            case 10: due("round" + of, x.round(person, a), m.round(person, a)); break;
            case 11: due("polish" + of, x.polish(a, b, c), m.polish(a, b, c)); break;
            case 12: due("forgive" + of, x.forgive(person), m.forgive(person)); break;
            case 13: due("worse" + of, x.worse(a, b), m.worse(a, b)); break;
            case 14: due("width" + of, x.width(b % 3), m.width(b % 3)); break;
            case 15: due("parts " + place, x.parts(place), m.parts(place)); break;
            case 16: case 17: case 18: due("see" + of, x.see(a, b, flag), m.see(a, b, flag)); break;
            case 19: due("forget", x.forget(), m.forget()); break;
            case 20: due("days " + seed, x.days(b * 7, seed, c % 3), m.days(b * 7, seed, c % 3)); break;
            case 21: due("image", x.image(), m.image()); break;
            case 22: due("restore", x.restore(), m.restore()); break;
            case 23: due("count " + place, x.count(place), m.count(place)); break;
            case 24: due("hope" + of, x.hope(person + 1, b % 3), m.hope(person + 1, b % 3)); break;
            default: due("game" + of, x.game(b), m.game(b));
        }
    }
}
