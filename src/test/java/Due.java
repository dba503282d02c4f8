/** Counts the answers that are due and prints those that are not, behind the sentence that wants them. */
final class Due {
    private final String name;
    private String sentence = "";
    private int passed;
    private int failed;

    Due(String name) {
        this.name = name;
    }

    /** The sentence of the document that the next answers are due by. */
    void by(String words) {
        sentence = " [" + words + "]";
    }

    void is(String call, long got, long want) {
        hold(got == want, call + " answered " + got + ", due is " + want);
    }

    void same(String what, String got, String want) {
        hold(got.equals(want), what + " there is" + got + "\ndue is" + want);
    }

    private void hold(boolean holds, String fault) {
        if (holds) {
            passed++;
        } else {
            failed++;
            System.out.println(name + sentence + ": " + fault);
        }
    }

    /** The refusals -1 .. -6 so far, one behind the other. */
    void refusals(String where, RoutesByTries x, int... want) {
        for (int i = 0; i < 6; i++) {
            is(where + ": count(" + (11 + i) + ")", x.count(11 + i), want[i]);
        }
    }

    void end() {
        System.out.println(name + ": " + passed + " answers as due, " + failed + " not");
        if (failed != 0 || passed == 0) {
            System.exit(1);
        }
    }

    static int tell(RoutesByTries x, String text) {
        for (int i = 0; i < text.length(); i++) {
            x.letter(text.charAt(i));
        }
        return x.table();
    }

    static RoutesByTries told(String text) {
        RoutesByTries x = new RoutesByTries();
        int answer = tell(x, text);
        if (answer < 1) {
            throw new IllegalStateException(text + " is no table: " + answer);
        }
        return x;
    }

    /** The number of a path such as "abd". */
    static int path(String letters) {
        int first = 0;
        int code = 0;
        for (int i = 0; i < letters.length(); i++) {
            first = first * 4 + 1;
            code = code * 4 + letters.charAt(i) - 'a';
        }
        return first + code;
    }
}
