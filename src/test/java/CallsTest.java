import java.util.ArrayList;
import java.util.List;

/** Long rows of calls on one object, by chance from a fixed seed, each answer compared with the model's. */
public final class CallsTest {
    private static final int[] ODD = {-1, 0, 1, 2, 3, 5, 16, -2, Integer.MAX_VALUE, Integer.MIN_VALUE, 20, 4000};

    private final Maker maker;
    private final BoundHouse house = new BoundHouse();
    private final Model model = new Model();
    private final List<String> calls = new ArrayList<>();
    private int fed = 0;

    private CallsTest(Maker maker) {
        this.maker = maker;
    }

    public static void main(String[] args) {
        int rows = args.length > 0 ? Integer.parseInt(args[0]) : 150;
        Maker maker = new Maker(args.length > 1 ? Long.parseLong(args[1]) : 11);
        for (int row = 0; row < rows && Kit.wrongs() == 0; row++) {
            new CallsTest(maker).calls();
        }
        Kit.end();
    }

    private void due(String call, long got, long want) {
        calls.add(call + " = " + want);
        if (got != want && Kit.wrongs() == 0) {
            Kit.note(call + " answered " + got + ", due is " + want + ", behind\n" + String.join("\n", calls));
        }
    }

    private int odd() {
        return maker.below(3) == 0 ? ODD[maker.below(ODD.length)] : maker.below(6);
    }

    private int input() {
        return maker.below(6) == 0 ? ODD[maker.below(ODD.length)] : maker.below(40);
    }

    private void calls() {
        while (calls.size() < 512) {
            int kind = maker.below(40);
            if (kind < 3) {
                judgeText();
            } else if (kind == 3) {
                feedOdd();
            } else {
                ask(kind);
            }
        }
    }

    private void feedFive(int a, int b, int c, int d, int e) {
        fed = model.feed(a, b, c, d, e);
        due("feed(" + a + ", " + b + ", " + c + ", " + d + ", " + e + ")", house.feed(a, b, c, d, e), fed);
    }

    private void feedOdd() {
        feedFive(odd(), 0x6D657468, 0x6F642066, odd(), 0x20202020);
        if (maker.below(2) == 0) {
            int n = odd();
            due("judge(" + n + ")", house.judge(n), model.judge(n));
        }
    }

    private void judgeText() {
        String[] seeds = {Texts.LOOP, Texts.RECURSION, Texts.HALVES, Texts.ARRAYS, Texts.FILL, Texts.PARITY};
        String text = maker.below(3) == 0 ? maker.fresh() : seeds[maker.below(seeds.length)];
        text = maker.below(2) == 0 ? text : maker.changed(text);
        byte[] bytes = Kit.bytes(text + " ".repeat(20));
        for (int i = 0; i + 20 <= bytes.length; i += 20) {
            int[] fives = new int[5];
            for (int k = 0; k < 20; k++) {
                fives[k / 4] = fives[k / 4] << 8 | bytes[i + k] & 255;
            }
            feedFive(fives[0], fives[1], fives[2], fives[3], fives[4]);
        }
        int n = maker.below(8) == 0 ? maker.below(text.length() + 30) : text.length();
        due("judge(" + n + ")", house.judge(n), model.judge(n));
    }

    private void ask(int kind) {
        int a = odd();
        int b = odd();
        int i = maker.below(4) == 0 ? odd() : maker.below(30);
        int[] three = {input(), input(), input()};
        String inputs = ", " + three[0] + ", " + three[1] + ", " + three[2] + ")";
        switch (kind % 13) {
            case 0 -> due("fault(" + a + ")", house.fault(a), model.fault(a));
            case 1 -> {
                long v = maker.below(5) == 0 ? Long.MIN_VALUE : input();
                due("give(" + v + ")", house.give(v), model.give(v));
            }
            case 2, 3 -> due("run(" + a + inputs, house.run(a, three[0], three[1], three[2]),
                    model.run(a, three[0], three[1], three[2]));
            case 4, 5 -> {
                int what = maker.below(10);
                due("about(" + what + ")", house.about(what), model.about(what));
            }
            case 6 -> due("result()", house.result(), model.result());
            case 7 -> due("cell(" + a + ", " + i + ")", house.cell(a, i), model.cell(a, i));
            case 8 -> due("bound(" + a + ", " + b + inputs, house.bound(a, b, three[0], three[1], three[2]),
                    model.bound(a, b, three[0], three[1], three[2]));
            case 9 -> due("count(" + a + ")", house.count(a), model.count(a));
            case 10 -> due("shown(" + i + ", " + a + ")", house.shown(i, a), model.shown(i, a));
            case 11 -> {
                int what = maker.below(3) == 0 ? odd() : maker.below(18) - 1;
                due("term(" + i + ", " + b + ", " + what + ")", house.term(i, b, what), model.term(i, b, what));
            }
            default -> due("overs()", house.overs(), model.overs());
        }
    }
}
