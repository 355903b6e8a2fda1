/** Every call with all odd numbers for all it is told, in states from new to full, held against the plain model. */
public final class ExtremesTests {
    private static final int[] ODD = {Integer.MIN_VALUE, Integer.MIN_VALUE + 1, -102, -32, -2, -1, 0, 1, 2, 3, 4, 5, 6,
        7, 8, 9, 10, 11, 12, 16, 17, 18, 31, 32, 33, 60, 61, 126, 127, 65536, Integer.MAX_VALUE - 1, Integer.MAX_VALUE};
    private static final String LARGE = "t991,l880,q771,n660,s551,t440,l331,q220;4";
    private static final int STATES = 6;

    private final WorseStile x = new WorseStile();
    private final PlainModel m = new PlainModel();
    private final String state;

    private ExtremesTests(int number) {
        state = "state " + number;
        switch (number) {
            case 0: break;
            case 1: write("t110,l"); break;
            case 2: read("t000,t991;1"); break;
            case 3: read(LARGE); break;
            case 4: read(LARGE); fill(); break;
            default: read(LARGE); fill(); read("s110,n111;2"); fill();
        }
    }

    public static void main(String[] args) {
        for (int number = 0; number < STATES; number++) {
            new ExtremesTests(number).oneNumber();
            new ExtremesTests(number).twoNumbers();
            new ExtremesTests(number).threeNumbers();
        }
        Due.end("ExtremesTests");
    }

    private void due(String call, long got, long want) {
        Due.due(state + ": " + call, got, want);
    }

    private void write(String text) {
        for (char c : text.toCharArray()) {
            due("letter(" + c + ")", x.letter(c), m.letter(c));
        }
    }

    private void read(String text) {
        due("blank()", x.blank(), m.blank());
        write(text);
        due("stile()", x.stile(), m.stile());
    }

    // He has carried 99 and went 900 miles, all is seen that can be, the page is full, an image is kept.
    private void fill() {
        for (int n = 0; n < 99; n++) {
            int thing = x.person(0, 0) == x.thing(0, 3) ? 0 : 1;
            due("carry", x.carry(0, thing), m.carry(0, thing));
            due("forgive", x.forgive(0), m.forgive(0));
        }
        for (int n = 0; n < 100; n++) {
            due("round", x.round(0, -1), m.round(0, -1));
        }
        for (int n = 0; n < 8; n++) {
            due("see", x.see(n % 2, 1 - n % 2, n < 4), m.see(n % 2, 1 - n % 2, n < 4));
        }
        due("image", x.image(), m.image());
        write("~".repeat(44));
    }

    private void dueAll() {
        due("digest()", x.digest(), m.digest());
        due("fault()", x.fault(), m.fault());
    }

    private void oneNumber() {
        for (int a : ODD) {
            String of = "(" + a + ")";
            due("width" + of, x.width(a), m.width(a));
            due("parts" + of, x.parts(a), m.parts(a));
            due("game" + of, x.game(a), m.game(a));
            due("count" + of, x.count(a), m.count(a));
            due("cross" + of, x.cross(a), m.cross(a));
            due("forgive" + of, x.forgive(a), m.forgive(a));
            due("letter" + of, x.letter(a), m.letter(a));
            dueAll();
        }
        due("restore()", x.restore(), m.restore());
        due("forget()", x.forget(), m.forget());
        due("stile()", x.stile(), m.stile());
        due("blank()", x.blank(), m.blank());
        due("image()", x.image(), m.image());
        due("restore()", x.restore(), m.restore());
        dueAll();
    }

    private void twoNumbers() {
        for (int a : ODD) {
            for (int b : ODD) {
                String of = "(" + a + ", " + b + ")";
                due("thing" + of, x.thing(a, b), m.thing(a, b));
                due("as" + of, x.as(a, b), m.as(a, b));
                due("person" + of, x.person(a, b), m.person(a, b));
                due("worse" + of, x.worse(a, b), m.worse(a, b));
                due("carry" + of, x.carry(a, b), m.carry(a, b));
                due("round" + of, x.round(a, b), m.round(a, b));
                due("hope" + of, x.hope(a, b), m.hope(a, b));
                due("see" + of, x.see(a, b, true), m.see(a, b, true));
                due("see not" + of, x.see(b, a, false), m.see(b, a, false));
            }
            dueAll();
        }
    }

    private void threeNumbers() {
        for (int a : ODD) {
            for (int b : ODD) {
                for (int c : ODD) {
                    String of = "(" + a + ", " + b + ", " + c + ")";
                    due("days" + of, x.days(a, b, c), m.days(a, b, c));
                    due("polish" + of, x.polish(a, b, c), m.polish(a, b, c));
                }
            }
            dueAll();
        }
    }
}
