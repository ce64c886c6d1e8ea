import java.nio.charset.StandardCharsets;

/** What the tests share: feeding texts, and counting the answers that are not as due. */
final class Kit {
    private static final int MOST_PRINTED = 40;
    private static int wrong = 0;

    private Kit() {
    }

    static void due(String what, long got, long want) {
        if (got != want) {
            note(what + " answered " + got + ", due is " + want);
        }
    }

    /** Only the first are printed: one cause often has many wrong answers. */
    static void note(String problem) {
        wrong++;
        if (wrong <= MOST_PRINTED) {
            System.out.println(problem);
        }
    }

    static int wrongs() {
        return wrong;
    }

    static void end() {
        System.out.println(wrong == 0 ? "all answers are as due" : wrong + " answers are not as due");
        if (wrong != 0) {
            System.exit(1);
        }
    }

    static byte[] bytes(String text) {
        return text.getBytes(StandardCharsets.ISO_8859_1);
    }

    private static int four(byte[] bytes, int from) {
        int four = 0;
        for (int i = from; i < from + 4; i++) {
            four = four << 8 | (i < bytes.length ? bytes[i] & 255 : ' ');
        }
        return four;
    }

    /** Feeds the text, with blanks behind it up to a multiple of 20 bytes. */
    static int feed(BoundHouse house, String text) {
        byte[] bytes = bytes(text);
        int answer = 0;
        for (int i = 0; i < bytes.length; i += 20) {
            answer = house.feed(four(bytes, i), four(bytes, i + 4), four(bytes, i + 8), four(bytes, i + 12),
                    four(bytes, i + 16));
        }
        return answer;
    }

    static int judge(BoundHouse house, String text) {
        feed(house, text);
        return house.judge(text.length());
    }

    /** A house whose program is this text. */
    static BoundHouse taken(String text) {
        return taken(text, 0);
    }

    /** A house that was asked to take this text, with this FAULT. */
    static BoundHouse taken(String text, int fault) {
        BoundHouse house = new BoundHouse();
        int answer = judge(house, text);
        if (answer != fault) {
            note("refused with " + answer + " at " + house.fault(1) + ": " + text);
        }
        return house;
    }

    /** Judges the text in a new house: its fault, and its place. */
    static void dueFault(String text, int fault, int place) {
        BoundHouse house = new BoundHouse();
        due("judge of [" + text + "]", judge(house, text), fault);
        due("fault(0) of [" + text + "]", house.fault(0), fault);
        due("fault(1) of [" + text + "]", house.fault(1), fault == 0 ? -1 : place);
        Oracle oracle = new Oracle(bytes(text), true);
        due("the oracle's fault of [" + text + "]", oracle.fault, fault);
        due("the oracle's place of [" + text + "]", oracle.place, fault == 0 ? -1 : place);
    }

    /** The same, the place being that of the sign @, which is taken out. */
    static void dueFault(int fault, String marked) {
        int place = marked.indexOf('@');
        dueFault(marked.replace("@", ""), fault, place);
    }
}
