/** Long runs of drawn calls: GossipHead answers, throws and becomes what the Model does. */
public final class ModelTest {
    private static final int RUNS = 160;
    private static final int CALLS = 512;
    private static final String[] TEXTS = {"p", "f", "1", "0", "5", "9", ":", ";", "*", "p1:2", "f9:1*500",
        "p0:0;", ";p33:4", "f12:3*45", ";f5:0*7", "p9:9", "f3:3*50", "00", "10", "x", "~", "5:5", ":0*0;"};

    private final GossipHead head = new GossipHead();
    private final Model model = new Model();
    private long seed;
    private int wild;
    private int a;
    private int b;
    private int c;
    private int d;
    private int e;

    private ModelTest(int run) {
        seed = run * 7919L + 17;
        wild = run % 4 == 0 ? 8 : 40;
    }

    public static void main(String[] args) {
        int wrong = 0;
        for (int run = 0; run < RUNS; run++) {
            wrong += new ModelTest(run).runOnce(run) ? 0 : 1;
        }
        Check.due("runs in which an answer was not the model's", wrong, 0);
        Check.finish();
    }

    private boolean runOnce(int run) {
        int profile = run % 5;
        for (int call = 0; call < CALLS; call++) {
            int kind = drawKind(profile);
            drawArguments(kind);
            String got = answer(kind, true);
            String due = answer(kind, false);
            if (call % 3 == 0) {
                got += " digest " + head.digest();
                due += " digest " + model.digest();
            }
            if (!got.equals(due)) {
                System.out.println("run " + run + ", call " + call + ": kind " + kind + " with " + a + ", " + b
                    + ", " + c + ", " + d + ", " + e + " answered " + got + ", due is " + due);
                return false;
            }
        }
        return true;
    }

    private int draw(int below) {
        seed = (seed * 6364136223846793005L + 1442695040888963407L);
        return (int) Long.remainderUnsigned(seed >>> 33, below);
    }

    /** Builds, then mostly tours, or mostly texts, or anything. */
    private int drawKind(int profile) {
        int dice = draw(100);
        if (profile == 0 || dice < 30) {
            return draw(28);
        }
        int[][] often = {{}, {8, 8, 8, 9, 2, 3, 6}, {10, 10, 10, 27, 27, 13, 12, 11}, {8, 9, 14, 8, 9, 2},
            {0, 1, 8, 21, 24, 5, 3}};
        return often[profile][draw(often[profile].length)];
    }

    private int number(int least, int greatest) {
        if (draw(wild) == 0) {
            int[] odd = {least - 1, greatest + 1, -1, Integer.MAX_VALUE, Integer.MIN_VALUE, 1000};
            return odd[draw(odd.length)];
        }
        return draw(6) == 0 ? (draw(2) == 0 ? least : greatest) : least + draw(greatest - least + 1);
    }

    private int someFeeder() {
        return number(0, Math.max(0, model.count(0) - 1));
    }

    private void drawArguments(int kind) {
        a = 0;
        b = 0;
        c = 0;
        d = 0;
        e = 0;
        switch (kind) {
            case 0:
                a = number(0, 99);
                b = number(0, draw(2) == 0 ? 1 : 5);
                c = draw(2) == 0 ? draw(12) : number(0, 500);
                d = number(0, 100);
                e = number(0, 100);
                break;
            case 1:
                a = number(0, 99);
                b = number(0, draw(2) == 0 ? 1 : 5);
                break;
            case 2:
                a = someFeeder();
                b = draw(2) == 0 ? 1 + draw(20) : number(1, 500);
                break;
            case 3:
                a = someFeeder();
                b = number(0, 100);
                c = number(0, 100);
                break;
            case 4:
                a = number(0, 3);
                b = draw(2) == 0 ? 63 : number(0, 63);
                break;
            case 6:
                a = number(0, 4);
                b = number(0, a == 0 ? 5 : a < 3 ? 50 : 100);
                break;
            case 7:
                a = number(1, 20);
                break;
            case 8:
                a = draw(3) > 0 ? 1 + draw(3) : number(1, 20);
                break;
            case 10:
                a = number(33, 126);
                break;
            case 15:
                a = someFeeder();
                b = number(0, 8);
                break;
            case 16:
                a = number(0, Math.max(0, model.count(1) - 1));
                b = number(0, 4);
                break;
            case 17:
                a = number(0, 3);
                b = number(0, 4);
                break;
            case 18:
                a = number(0, 3);
                b = someFeeder();
                break;
            case 19:
                a = number(0, 13);
                break;
            case 20:
                a = number(0, 4);
                break;
            case 21:
                a = number(1, 20);
                b = number(0, 3);
                break;
            case 22:
                a = number(0, 3);
                b = number(0, 5);
                break;
            case 23:
                a = number(0, 3);
                break;
            case 27:
                a = draw(TEXTS.length);
                break;
            default:
                break;
        }
    }

    private String answer(int kind, boolean ofHead) {
        try {
            return String.valueOf(ofHead ? ofHead(kind) : ofModel(kind));
        } catch (RuntimeException thrown) {
            return thrown.getClass().getName();
        }
    }

    private long ofHead(int kind) {
        switch (kind) {
            case 0: return head.addFeeder(a, b, c, d, e);
            case 1: return head.addPlace(a, b);
            case 2: return head.fill(a, b);
            case 3: return head.repair(a, b, c);
            case 4: return head.fit(a, b);
            case 5: return head.clear();
            case 6: return head.set(a, b);
            case 7: return head.ifToured(a, 3);
            case 8: return head.tour(a);
            case 9: return head.inspect();
            case 10: return head.append(a);
            case 11: return head.clearBuffer();
            case 12: return head.firstError();
            case 13: return head.read();
            case 14: return head.undo();
            case 15: return head.feeder(a, b);
            case 16: return head.place(a, b);
            case 17: return head.nozzle(a, b);
            case 18: return head.trust(a, b);
            case 19: return head.count(a);
            case 20: return head.setting(a);
            case 21: return head.ifToured(a, b);
            case 22: return head.choice(a, b);
            case 23: return head.aim(a);
            case 24: return head.needed();
            case 25: return head.rumored();
            case 26: return Double.doubleToLongBits(head.missShare());
            default: return typed(true);
        }
    }

    private long ofModel(int kind) {
        switch (kind) {
            case 0: return model.addFeeder(a, b, c, d, e);
            case 1: return model.addPlace(a, b);
            case 2: return model.fill(a, b);
            case 3: return model.repair(a, b, c);
            case 4: return model.fit(a, b);
            case 5: return model.clear();
            case 6: return model.set(a, b);
            case 7: return model.ifToured(a, 3);
            case 8: return model.tour(a);
            case 9: return model.inspect();
            case 10: return model.append(a);
            case 11: return model.clearBuffer();
            case 12: return model.firstError();
            case 13: return model.read();
            case 14: return model.undo();
            case 15: return model.feeder(a, b);
            case 16: return model.place(a, b);
            case 17: return model.nozzle(a, b);
            case 18: return model.trust(a, b);
            case 19: return model.count(a);
            case 20: return model.setting(a);
            case 21: return model.ifToured(a, b);
            case 22: return model.choice(a, b);
            case 23: return model.aim(a);
            case 24: return model.needed();
            case 25: return model.rumored();
            case 26: return Double.doubleToLongBits(model.missShare());
            default: return typed(false);
        }
    }

    private long typed(boolean intoHead) {
        long length = 0;
        String text = TEXTS[a];
        for (int i = 0; i < text.length(); i++) {
            length = intoHead ? head.append(text.charAt(i)) : model.append(text.charAt(i));
        }
        return length;
    }
}
