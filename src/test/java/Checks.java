/** What the tests share: feeding texts, and counting the answers that are not as due. */
final class Checks {
    private int wrong;
    private int made;

    /** Puts the text, byte by byte as its characters are, behind the tape. */
    static void feed(SolverHouse house, String text) {
        for (int at = 0; at < text.length(); at += 20) {
            int[] five = new int[5];
            for (int i = 0; i < 20; i++) {
                int b = at + i < text.length() ? text.charAt(at + i) & 255 : ' ';
                five[i / 4] = five[i / 4] << 8 | b;
            }
            house.feed(five[0], five[1], five[2], five[3], five[4]);
        }
        int surplus = (20 - text.length() % 20) % 20;
        house.cut(surplus);
    }

    static int read(SolverHouse house, int p, String text) {
        feed(house, text);
        return house.problem(p);
    }

    /** A new house with this text as problem 0, which must have no fault. */
    SolverHouse house(String text) {
        SolverHouse house = new SolverHouse();
        int answer = read(house, 0, text);
        if (answer < 0) {
            due("reading " + text, answer, 1);
        }
        return house;
    }

    /** The text has this fault at the place of the byte ^, which is no part of it. */
    void fault(int kind, String marked) {
        int place = marked.indexOf('^');
        String text = marked.substring(0, place) + marked.substring(place + 1);
        SolverHouse house = new SolverHouse();
        due("problem(1) of " + marked, read(house, 1, text), -10 - kind);
        due("place() of " + marked, house.place(), place);
        due("told(1) of " + marked, house.told(1, 0, 0), -2);
        due("the tape after " + marked, house.cut(0), 0);
    }

    /** The text has no fault and this space. */
    void fine(String text, int space) {
        SolverHouse house = new SolverHouse();
        due("problem(1) of " + text, read(house, 1, text), space);
        due("place() of " + text, house.place(), -2);
    }

    static String times(int n, String text) {
        StringBuilder all = new StringBuilder();
        for (int i = 0; i < n; i++) {
            all.append(text);
        }
        return all.toString();
    }

    void due(String what, long got, long want) {
        made++;
        if (got != want) {
            wrong++;
            if (wrong < 50) {
                System.out.println(what + " answered " + got + ", due is " + want);
            }
        }
    }

    void end() {
        System.out.println(wrong == 0 ? made + " answers are as due" : wrong + " of " + made + " answers are not as due");
        if (wrong != 0) {
            System.exit(1);
        }
    }
}
