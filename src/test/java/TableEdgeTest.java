/** The bounds of a TABLE: every digit, every place of a FAULT, no room, and that all of it comes or nothing. */
public final class TableEdgeTest {
    private static final Due due = new Due("TableEdgeTest");
    private static final String EACH_FORM = "r00/a/<1/>2/*;m12/:3/d;k249;r23;x0;";
    private static final String DIGITS = "0123456789";

    public static void main(String[] args) {
        noStatement();
        mostLetters();
        statementsCounted();
        everyDigitOfRoutes();
        everyDigitOfMounts();
        everyDigitOfKinds();
        everyDigitOfDrops();
        everyParameter();
        parameterTwice();
        restLast();
        mostSegments();
        wrongLetterAtEachPlace();
        whatMayStandNext();
        lackingAtEachPlace();
        formAheadOfSense();
        firstWrongStatement();
        behindAllAhead();
        allOrNothing();
        lettersAreNoMore();
        due.end();
    }

    private static void tells(String text, int want) {
        due.is("table of " + text, Due.tell(new RoutesByTries(), text), want);
    }

    private static void noStatement() {
        due.by("At least one STATEMENT");
        RoutesByTries x = new RoutesByTries();
        due.is("table of nothing", x.table(), -1000);
        due.is("table of nothing again", x.table(), -1000);
        tells(";", -1000);
        due.by("nothing is counted");
        due.refusals("tables of nothing", x, 0, 0, 0, 0, 0, 0);
    }

    private static void mostLetters() {
        due.by("A TABLE is told in letters, one by one (96 at most)");
        String most = "k012;".repeat(18) + "r00/a;";
        RoutesByTries x = new RoutesByTries();
        for (int i = 0; i < 96; i++) {
            due.is("letter " + (i + 1), x.letter(most.charAt(i)), i + 1);
        }
        due.is("letter 97", x.letter('x'), -6);
        due.is("the table of 96", x.table(), 19);
        due.is("the last of them came", x.match(1, 0), 0);
        due.is("letters come again", x.letter('x'), 1);
        due.by("how many letters there may be does not matter");
        tells(most.substring(0, 95), -1095);
        tells("k012;".repeat(19) + "k", -1096);
    }

    private static void statementsCounted() {
        due.by("how many STATEMENTS");
        for (int many = 1; many <= 19; many++) {
            tells("k000;".repeat(many), many);
        }
        tells(EACH_FORM, 5);
    }

    private static void everyDigitOfRoutes() {
        due.by("\"r\" a ROUTER, a VERB (a digit each); no such ROUTER, VERB");
        for (int router = 0; router <= 9; router++) {
            for (int verb = 0; verb <= 9; verb++) {
                boolean known = router <= 2 && verb <= 3;
                RoutesByTries x = new RoutesByTries();
                String text = "r" + router + verb + ";";
                due.is("table of " + text, Due.tell(x, text), known ? 1 : -2000);
                due.is("its router", x.route(0, 0), known ? router : -1);
                due.is("its verb", x.route(0, 1), known ? verb : -1);
            }
        }
    }

    private static void everyDigitOfMounts() {
        due.by("\"m\" a ROUTER, a ROUTER (a digit each); a MOUNT of no greater one");
        for (int router = 0; router <= 9; router++) {
            for (int mounted = 0; mounted <= 9; mounted++) {
                boolean known = router < mounted && mounted <= 2;
                RoutesByTries x = new RoutesByTries();
                String text = "m" + router + mounted + ";";
                due.is("table of " + text, Due.tell(x, text), known ? 1 : -2000);
                due.is("its router", x.route(0, 0), known ? router : -1);
                due.is("what it mounts", x.route(0, 2), known ? mounted : -1);
            }
        }
    }

    private static void everyDigitOfKinds() {
        due.by("\"k\" a ROUTER, KIND, FIGURE (a digit each); no such ROUTER, KIND");
        for (int router = 0; router <= 9; router++) {
            for (int kind = 0; kind <= 9; kind++) {
                for (int figure = 0; figure <= 9; figure++) {
                    boolean known = router <= 2 && kind <= 5;
                    RoutesByTries x = new RoutesByTries();
                    String text = "k" + router + kind + figure + ";";
                    due.is("table of " + text, Due.tell(x, text), known ? 1 : -2000);
                    due.is("kind behind " + text, x.kind(Math.min(router, 2), 0, 0), known ? 10 * kind + figure : 0);
                }
            }
        }
    }

    private static void everyDigitOfDrops() {
        due.by("\"x\" a ROUTE (a digit): DROPPED; no such ROUTE THERE");
        for (int many = 0; many <= 10; many++) {
            for (int route = 0; route <= 9; route++) {
                String text = "r00;".repeat(many) + "x" + route + ";";
                tells(text, route < many ? many + 1 : -2000 - 4 * many);
            }
        }
        RoutesByTries x = Due.told("r00;r00;");
        due.is("x1", Due.tell(x, "x1;"), 1);
        due.is("x1 again", Due.tell(x, "x1;"), -2000);
        due.is("there", x.count(1), 1);
    }

    private static void everyParameter() {
        due.by("with a PARAMETER 0 .. 3; no such PARAMETER");
        for (char named : "<>:".toCharArray()) {
            for (char digit : DIGITS.toCharArray()) {
                int want = digit <= '3' ? 1 : -2000;
                tells("r00/" + named + digit + ";", want);
                tells("m01/a/" + named + digit + ";", want);
                tells("r00/a/b/c/" + named + digit + ";", want);
            }
        }
    }

    private static void parameterTwice() {
        due.by("no PARAMETER twice");
        for (char first : "<>:".toCharArray()) {
            for (char second : "<>:".toCharArray()) {
                for (int parameter = 0; parameter <= 3; parameter++) {
                    String one = "/" + first + parameter;
                    String again = "/" + second + parameter;
                    String other = "/" + second + (3 - parameter);
                    tells("r00" + one + again + ";", -2000);
                    tells("m12" + one + "/a/b" + again + ";", -2000);
                    tells("r00" + one + other + ";", 1);
                    tells("r00" + one + ";r00" + again + ";m01" + one + ";", 3);
                }
            }
        }
        tells("r00/:0/:1/:2/:3;", 1);
        tells("r00/:0/:1/:2/:0;", -2000);
    }

    private static void restLast() {
        due.by("REST, only as the last one; SEGMENTS behind REST");
        String[] behind = {"/a", "/d", "/<0", "/>1", "/:3", "/*"};
        for (String segment : behind) {
            tells("r00/*" + segment + ";", -2000);
            tells("r00/a/*" + segment + ";", -2000);
            tells("r00/a/b/*" + segment + ";", -2000);
        }
        for (String ahead : new String[] {"", "/a", "/a/b", "/a/b/c"}) {
            tells("r00" + ahead + "/*;", 1);
            due.by("a MOUNT with REST");
            tells("m01" + ahead + "/*;", -2000);
            tells("m01" + ahead + ";", 1);
        }
    }

    private static void mostSegments() {
        due.by("more than 4 SEGMENTS");
        for (int many = 0; many <= 8; many++) {
            tells("r00" + "/a".repeat(many) + ";", many <= 4 ? 1 : -2000);
            tells("m12" + "/d".repeat(many) + ";", many <= 4 ? 1 : -2000);
            tells("r00" + "/b".repeat(many) + "/*;", many <= 3 ? 1 : -2000);
        }
        tells("r00" + "/a".repeat(46) + ";", -2000);
    }

    private static void wrongLetterAtEachPlace() {
        due.by("the place of the first letter with which no TABLE can go on");
        char[] never = {0, ' ', '!', 'e', 'q', 'A', 'R', '`', '.', '0' + 128, ';' + 128, 255};
        for (int place = 0; place < EACH_FORM.length(); place++) {
            for (char wrong : never) {
                tells(EACH_FORM.substring(0, place) + wrong + EACH_FORM.substring(place + 1), -1000 - place);
            }
        }
    }

    /** The letters that may stand behind each beginning, out of all 256. */
    private static void whatMayStandNext() {
        due.by("A TABLE: STATEMENTS, each with \";\" behind");
        String[] beginnings = {"", "r", "r0", "r00", "r00/", "r00/a", "r00/<", "r00/>", "r00/:", "r00/:0", "r00/*",
            "m", "m0", "m01", "m01/", "k", "k0", "k00", "k000", "x", "x0", "r00;"};
        String open = "/;";
        String segment = "abcd<>:*";
        String first = "rmkx";
        String[] next = {first, DIGITS, DIGITS, open, segment, open, DIGITS, DIGITS, DIGITS, open, open,
            DIGITS, DIGITS, open, segment, DIGITS, DIGITS, DIGITS, ";", DIGITS, ";", first};
        for (int i = 0; i < beginnings.length; i++) {
            for (int sign = 0; sign <= 255; sign++) {
                RoutesByTries x = new RoutesByTries();
                int answer = Due.tell(x, beginnings[i] + (char) sign);
                boolean stopped = answer == -1000 - beginnings[i].length();
                boolean may = next[i].indexOf(sign) >= 0;
                due.is("\"" + beginnings[i] + "\" stops at the letter " + sign, stopped ? 1 : 0, may ? 0 : 1);
            }
        }
    }

    private static void lackingAtEachPlace() {
        due.by("the end, if something lacks");
        int statements = 0;
        for (int length = 1; length <= EACH_FORM.length(); length++) {
            boolean whole = EACH_FORM.charAt(length - 1) == ';';
            statements += whole ? 1 : 0;
            tells(EACH_FORM.substring(0, length), whole ? statements : -1000 - length);
        }
    }

    private static void formAheadOfSense() {
        due.by("FAULT: kind 1 the first letter with which no TABLE can go on; else kind 2");
        tells("r99;q", -1004);
        tells("x0;x0", -1005);
        tells("m00/*;r00//", -1010);
        tells("k990;k99;", -1008);
        tells("r99;q;x9;", -1004);
    }

    private static void firstWrongStatement() {
        due.by("the place of the first letter of the first STATEMENT that is not as it must be");
        String[] wrong = {"r30;", "r04;", "r00/:4;", "r00/a/<0/>0;", "r00/*/a;", "r00/a/a/a/a/a;", "m11;", "m10;",
            "m03;", "m01/*;", "k300;", "k060;", "x9;"};
        String[] right = {"", "r00;", "r00/a/b;m01/:3;", "k259;r20/*;", "r00;x0;"};
        for (String bad : wrong) {
            for (String good : right) {
                tells(good + bad, -2000 - good.length());
                tells(good + bad + "r00;r77;", -2000 - good.length());
            }
        }
    }

    private static void behindAllAhead() {
        due.by("behind all ahead of it in the text");
        tells("r00;x0;", 2);
        tells("r00;x0;x0;", -2007);
        tells("x0;r00;", -2000);
        tells("r00;r00;x1;x0;x1;", -2014);
        due.by("no room");
        tells("r00;".repeat(9) + "x0;r00;", 11);
        tells("r00;".repeat(10) + "x0;r00;", -2043);
        tells("m01;".repeat(10) + "m01;", -2040);
        tells("r00;".repeat(10) + "x9;x8;k000;", 13);
    }

    private static void allOrNothing() {
        due.by("Without FAULT all of it comes, with one nothing");
        Twins some = new Twins(due, "some", x -> Due.tell(x, "r00/a;m01/b;r10/:0;r02/c/*;k012;k253;"));
        String[] good = {"r00/d;", "m12/d;", "k034;", "x0;", "x1;r21;k000;"};
        for (String ahead : good) {
            for (String fault : new String[] {"q", "r0", "x9;", "r00/:7;"}) {
                int place = ahead.length() + (fault.equals("r0") ? 2 : 0);
                int kind = fault.endsWith(";") ? -2000 : -1000;
                some.told(kind - place, ahead + fault);
            }
        }
        RoutesByTries x = Due.told("r00/a;r00/b;");
        due.is("all of it", Due.tell(x, "x1;k123;r03/c;m02/d;"), 4);
        due.is("there", x.count(1), 0b1101);
        due.is("came", x.count(0), 4);
        due.is("kind", x.kind(1, 0, 0), 23);
        due.is("an end of it", x.match(3, 3), 2);
        due.is("a mount of it", x.route(3, 2), 2);
    }

    private static void lettersAreNoMore() {
        due.by("The letters become a TABLE, and are no more (with a FAULT neither)");
        for (String text : new String[] {"", "r00;", "q", "r0", "r99;"}) {
            RoutesByTries x = new RoutesByTries();
            Due.tell(x, text);
            due.is("letters behind " + text, x.count(6), 0);
            due.is("the first one then", x.letter('k'), 1);
            due.is("a table by itself", Due.tell(x, "123;"), 1);
        }
    }
}
