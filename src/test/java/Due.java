/** Counts the answers that are not as due, and makes objects with a STILE read. */
final class Due {
    private static int wrong = 0;

    private Due() {
    }

    static void due(String call, long got, long want) {
        if (got != want) {
            wrong++;
            System.out.println(call + " answered " + got + ", due is " + want);
        }
    }

    static void end(String name) {
        System.out.println(name + ": " + (wrong == 0 ? "all answers are as due" : wrong + " answers are not as due"));
        if (wrong != 0) {
            System.exit(1);
        }
    }

    static void write(WorseStile x, String text) {
        for (int i = 0; i < text.length(); i++) {
            x.letter(text.charAt(i));
        }
    }

    static void read(WorseStile x, String text) {
        write(x, text);
        int things = text.length() / 5;
        due("stile() of " + text, x.stile(), things);
    }

    static WorseStile with(String text) {
        WorseStile x = new WorseStile();
        read(x, text);
        return x;
    }
}
