import java.util.ArrayList;
import java.util.List;

/** Each bound of STEPS, CHANGED, DRILLED, RESCUED and ACTS: below it, at it, above it; nobody, all down, full. */
final class ActsEdgesTests {
    public static void main(String[] args) {
        snowHoldsTheFirst();
        aTreadLessThan1();
        noonInAStep();
        othersTreadAsTheOneAhead();
        nobodyAheadNow();
        wolvesNeverDropBehind();
        wolvesFirst();
        stepOfThoseDown();
        changeOfEachSize();
        changeOfThoseDown();
        drillOfEachStride();
        strainOf5();
        drillOfOneDown();
        rescueFromEachPlace();
        rescueOfAll();
        fourteenActs();
        actsWrapAround();
        actsUndoneAndMade();
        eachKindOfActUndone();
        Check.finish("ActsEdgesTests");
    }

    private static void snowHoldsTheFirst() {
        for (int depth = 1; depth <= 9; depth++) {
            for (int stride = 1; stride <= 9; stride++) {
                PassInStep x = Check.party("P" + depth + "9" + (10 - depth) + "W" + stride + "10");
                Check.due("9: a tread of " + stride + " on " + depth, x.step(), stride > depth ? 1 : 0);
                Check.due("9: who is DOWN", x.about(3), stride > depth ? 1 : 0);
                Check.due("9: THE STEP is one more", x.about(1), 1);
                x = Check.party("P" + (10 - depth) + "0" + depth + "W" + stride + "10");
                Check.due("9: a tread of " + stride + " behind noon", x.step(), stride > depth ? 1 : 0);
            }
        }
    }

    private static void aTreadLessThan1() {
        PassInStep x = Check.party("P909W111W111");
        Check.due("9: treads of 1", x.step(), 0);
        Check.due("7: a tread of 0", x.walker(0, 6), 0);
        Check.due("9: treads of 0, each one first when it comes", x.step(), 2);
        x = Check.party("P909W211");
        Check.due("9: a tread of 2", x.step(), 0);
        Check.due("9: a tread of 1, lame", x.step(), 0);
    }

    private static void noonInAStep() {
        for (int noon = 0; noon <= 9; noon++) {
            PassInStep x = Check.party("P9" + noon + "1W210");
            for (int t = 0; t < noon; t++) {
                Check.due("9: ahead of noon " + noon, x.step(), 0);
            }
            Check.due("9: from noon on, " + noon, x.step(), 1);
            x = Check.party("P1" + noon + "9W210");
            for (int t = 0; t < noon; t++) {
                Check.due("9: ahead of noon " + noon + ", deep behind it", x.step(), 1);
                x.rescue(0);
            }
            Check.due("9: from noon on, deep, " + noon, x.step(), 0);
        }
    }

    private static void othersTreadAsTheOneAhead() {
        for (int stride = 1; stride <= 9; stride++) {
            PassInStep x = Check.party("P505W510W" + stride + "10");
            Check.due("9: " + stride + " behind 5", x.step(), stride == 5 ? 0 : 1);
            Check.due("9: who is DOWN, " + stride, x.about(3), stride == 5 ? 0 : 2);
        }
        PassInStep x = Check.party("P909W210W111");
        x.step();
        x.rescue(1);
        Check.due("9: 0 behind 2 drops", x.step(), 1);
        x = Check.party("P909W543W533");
        for (int t = 0; t < 3; t++) {
            Check.due("9: two drunkards in step", x.step(), 0);
        }
        Check.due("9: in step 3 they are not", x.step(), 1);
    }

    private static void nobodyAheadNow() {
        PassInStep x = Check.party("P404W510W610W710W410W510");
        Check.due("9: three drop, then the first one is held, the last one treads not as it", x.step(), 4);
        Check.due("9: who is DOWN", x.about(3), 1 + 2 + 4 + 16);
        x = Check.party("P909W510W410W410W510W410");
        Check.due("9: who drops is not ahead", x.step(), 3);
        Check.due("9: those in step with the first", x.about(3), 2 + 4 + 16);
        x = Check.party("P404W510W410W510");
        Check.due("9: in THE LINE's order", x.change(0) + x.step(), 1 + 2);
        Check.due("9: 1 is held", x.about(3), 1 + 4);
    }

    private static void wolvesNeverDropBehind() {
        PassInStep x = Check.party("P505W510W912W112W942W510");
        for (int t = 0; t < 12; t++) {
            Check.due("9: wolves behind 5", x.step(), 0);
        }
        x = Check.party("P909W543W912W312W543");
        for (int t = 0; t < 12; t++) {
            Check.due("9: wolves behind a drunkard, and one in step", x.step(), 0);
        }
    }

    private static void wolvesFirst() {
        PassInStep x = Check.party("P404W342");
        Check.due("9: a wolf's tread at its beat, held", x.step(), 0);
        x = Check.party("P404W442");
        Check.due("9: a wolf's tread at its beat, not held", x.step(), 1);
        x.rescue(0);
        for (int t = 1; t < 4; t++) {
            Check.due("9: a wolf's tread beside its beat " + t, x.step(), 0);
        }
        Check.due("9: at its beat again", x.step(), 1);
        x = Check.party("P404W442W442W342");
        Check.due("9: two wolves drop, the third is held", x.step(), 2);
        Check.due("9: who is DOWN", x.about(3), 3);
        x = Check.party("P999W442W510W410");
        Check.due("9: behind a wolf that is first", x.step(), 1);
        Check.due("9: at its beat 5 is in step", x.about(3), 4);
        Check.due("9: then it is not", x.step(), 1);
        Check.due("9: all but the wolf", x.about(3), 6);
    }

    private static void stepOfThoseDown() {
        PassInStep x = Check.party("P404W510W910");
        Check.due("9: both drop", x.step(), 2);
        for (int t = 1; t <= 3; t++) {
            Check.due("9: who is DOWN does not drop", x.step(), 0);
            Check.due("9: THE STEP is one more", x.about(1), t + 1);
            Check.due("9: it is an ACT", x.about(5), t + 1);
        }
    }

    private static void changeOfEachSize() {
        String all = "P909W110W210W310W410W510";
        for (int count = 0; count <= 5; count++) {
            for (int place = -2; place <= 6; place++) {
                PassInStep x = Check.party(all.substring(0, 4 + 4 * count));
                boolean both = place >= 0 && place + 1 < count;
                String told = "10: change(" + place + ") of " + count;
                Check.due(told, x.change(place), both ? place + 1 : PassInStep.UNKNOWN);
                Check.due(told + ", ACTS", x.about(5), both ? 1 : 0);
                for (int w = 0; w < count; w++) {
                    int due = both && w == place ? w + 1 : both && w == place + 1 ? w - 1 : w;
                    Check.due(told + ", the place of " + w, x.walker(w, 5), due);
                    Check.due(told + ", the line", x.line(due), w);
                }
                if (both) {
                    Check.due(told + " twice", x.change(place), place);
                }
            }
        }
        PassInStep x = Check.party(all);
        Check.due("10: the greatest place", x.change(Integer.MAX_VALUE), PassInStep.UNKNOWN);
        Check.due("10: the least place", x.change(Integer.MIN_VALUE), PassInStep.UNKNOWN);
    }

    private static void changeOfThoseDown() {
        PassInStep x = Check.party("P404W510W610");
        x.step();
        Check.due("10: both are DOWN", x.change(0), 1);
        Check.due("10: they stay so", x.about(3), 3);
        Check.due("10: THE STEP stays", x.about(1), 1);
    }

    private static void drillOfEachStride() {
        for (int stride = 1; stride <= 9; stride++) {
            for (int more = -1; more <= 1; more += 2) {
                PassInStep x = Check.party("P101W" + stride + "10W510");
                boolean can = stride + more >= 1 && stride + more <= 9;
                String told = "11: " + stride + " and " + more;
                Check.due(told, x.drill(0, more > 0), can ? stride + more : PassInStep.LATE);
                Check.due(told + ", STRIDE", x.walker(0, 0), can ? stride + more : stride);
                Check.due(told + ", STRAIN", x.walker(0, 3), can ? 1 : 0);
                Check.due(told + ", ACTS", x.about(5), can ? 1 : 0);
                Check.due(told + ", the other one", x.walker(1, 0) + x.walker(1, 3), 5);
                Check.due(told + ", BEAT and KIND", x.walker(0, 1) * 10 + x.walker(0, 2), 10);
            }
        }
    }

    private static void strainOf5() {
        for (int run = 1; run < 31; run++) {
            PassInStep x = Check.party("P101W510W510");
            for (int i = 0; i < 5; i++) {
                Check.due("11: STRAIN ahead of it", x.walker(0, 3), i);
                Check.isTrue("11: it can be", x.drill(0, (run >> i & 1) != 0) > 0);
            }
            Check.due("11: STRAIN 5", x.walker(0, 3), 5);
            Check.due("11: not more", x.drill(0, true), PassInStep.LATE);
            Check.due("11: not less", x.drill(0, false), PassInStep.LATE);
            Check.due("11: STRAIN stays 5", x.walker(0, 3), 5);
            Check.due("11: five ACTS", x.about(5), 5);
            Check.due("11: the other one can be", x.drill(1, true), 6);
            x.undo();
            x.undo();
            Check.due("11: STRAIN 4 behind undo", x.walker(0, 3), 4);
            Check.isTrue("11: it can be again", x.drill(0, (run >> 4 & 1) != 0) > 0);
            Check.due("11: and then not", x.drill(0, true), PassInStep.LATE);
        }
    }

    private static void drillOfOneDown() {
        PassInStep x = Check.party("P404W510W410");
        x.step();
        Check.due("11: it is DOWN, more", x.drill(0, true), PassInStep.LATE);
        Check.due("11: it is DOWN, less", x.drill(0, false), PassInStep.LATE);
        Check.due("11: no STRAIN by that", x.about(4), 0);
        Check.due("11: who is not DOWN can be", x.drill(1, false), 3);
        x.rescue(0);
        Check.due("11: RESCUED it can be", x.drill(0, false), 4);
    }

    private static void rescueFromEachPlace() {
        for (int w = 0; w < 5; w++) {
            StringBuilder text = new StringBuilder("P404");
            for (int v = 0; v < 5; v++) {
                text.append(v == w ? "W510" : "W410");
            }
            PassInStep x = Check.party(text.toString());
            Check.due("12: one is DOWN", x.step(), 1);
            Check.due("12: how many are DOWN then", x.rescue(w), 0);
            Check.due("12: it is not DOWN", x.walker(w, 4), 0);
            for (int place = 0; place < 5; place++) {
                int due = place == 4 ? w : place < w ? place : place + 1;
                Check.due("12: " + w + " is the last one, at " + place, x.line(place), due);
            }
            Check.due("12: once only", x.rescue(w), PassInStep.LATE);
            Check.due("12: an ACT", x.about(5), 2);
        }
    }

    private static void rescueOfAll() {
        PassInStep x = Check.party("P101W510W510W510W510W510");
        Check.due("12: nobody is DOWN", x.rescue(4), PassInStep.LATE);
        x.step();
        int[] order = {3, 0, 4, 1, 2};
        for (int i = 0; i < 5; i++) {
            Check.due("12: how many are DOWN then", x.rescue(order[i]), 4 - i);
        }
        for (int place = 0; place < 5; place++) {
            Check.due("12: each came to be the last one, " + place, x.line(place), order[place]);
        }
        Check.due("12: STRIDES stay", x.walker(3, 0), 5);
        Check.due("12: nobody is left", x.rescue(3), PassInStep.LATE);
    }

    private static void fourteenActs() {
        PassInStep x = Check.party("P909W510");
        for (int acts = 1; acts <= 20; acts++) {
            x.step();
            Check.due("13: ACTS behind " + acts + " steps", x.about(5), Math.min(14, acts));
        }
        for (int left = 13; left >= 0; left--) {
            Check.due("13: how many are left", x.undo(), left);
            Check.due("13: THE STEP", x.about(1), 6 + left);
        }
        Check.due("13: LATE", x.undo(), PassInStep.LATE);
        Check.due("13: the first six are forgotten", x.about(1), 6);
    }

    /** An act that can be, whatever the state is, of those four kinds in turn. */
    private static void act(PassInStep x, int number) {
        for (int i = 0; i < 4; i++) {
            int acts = x.about(5);
            String before = State.ofYard(x);
            switch ((number + i) % 4) {
                case 0: x.change(number % 2); break;
                case 1: x.step(); break;
                case 2: x.drill(number % 3, number % 5 < 3); break;
                default: x.rescue(number / 4 % 3); break;
            }
            if (x.about(5) > acts || !before.equals(State.ofYard(x))) {
                return;
            }
        }
    }

    private static void actsWrapAround() {
        for (int made = 13; made <= 32; made++) {
            PassInStep x = Check.party("P545W510W521W533");
            List<String> states = new ArrayList<>();
            states.add(State.ofYard(x));
            for (int number = 0; number < made; number++) {
                act(x, number);
                states.add(State.ofYard(x));
            }
            int acts = Math.min(14, made);
            Check.due("13: ACTS of " + made, x.about(5), acts);
            for (int back = 1; back <= acts; back++) {
                Check.due("13: undo no " + back + " of " + made, x.undo(), acts - back);
                Check.isTrue("13: as it was ahead of it, " + back + " of " + made,
                    states.get(made - back).equals(State.ofYard(x)));
            }
            Check.due("13: LATE behind " + made, x.undo(), PassInStep.LATE);
            Check.isTrue("13: LATE changes nothing", states.get(made - acts).equals(State.ofYard(x)));
        }
    }

    private static void actsUndoneAndMade() {
        for (int back = 1; back <= 14; back++) {
            PassInStep x = Check.party("P909W510");
            Check.steps(x, 17);
            for (int i = 0; i < back; i++) {
                x.undo();
            }
            Check.due("13: THE STEP behind " + back, x.about(1), 17 - back);
            x.drill(0, true);
            Check.due("13: one ACT more", x.about(5), 15 - back);
            Check.steps(x, back + 2);
            Check.due("13: full again", x.about(5), 14);
            for (int left = 13; left >= 0; left--) {
                Check.due("13: back to the first of 14", x.undo(), left);
            }
            Check.due("13: its THE STEP", x.about(1), back <= 11 ? 6 : 5);
            Check.due("13: the drill, if it was one of the 14", x.walker(0, 0), back <= 11 ? 5 : 6);
        }
    }

    private static void eachKindOfActUndone() {
        PassInStep x = Check.party("P404W410W910W810");
        Check.due("9: two drop", x.step(), 2);
        Check.due("13: a STEP is undone", x.undo(), 0);
        Check.due("13: who dropped is not DOWN", x.about(3), 0);
        Check.due("13: THE STEP is one less", x.about(1), 0);
        x.step();
        x.rescue(1);
        Check.due("13: a rescue is undone", x.undo(), 1);
        Check.due("13: it is DOWN again", x.about(3), 6);
        Check.due("13: it is where it was", x.walker(1, 5), 1);
        x.step();
        Check.due("13: a STEP in which nobody dropped", x.undo(), 1);
        Check.due("13: those that were DOWN stay so", x.about(3), 6);
        x.drill(0, true);
        Check.due("13: DRILLED more, undone", x.undo() * 10 + x.walker(0, 0), 14);
        x.drill(0, false);
        Check.due("13: DRILLED less, undone", x.undo() * 10 + x.walker(0, 0), 14);
        Check.due("13: STRAIN is undone", x.about(4), 0);
        x.change(0);
        Check.due("13: CHANGED, undone", x.undo() * 10 + x.line(0), 10);
        x.mark(0, 0);
        x.seed(4);
        x.keep(0);
        x.write('W');
        Check.due("13: the last ACT, not what came behind it", x.undo(), 0);
        Check.due("13: MARKS stay", x.about(6), 1);
        Check.due("13: THE TEXT stays", x.about(7), 17);
        Check.due("13: THE SEED stays", x.seed(0), 4);
        Check.due("13: a SLOT stays", x.again(0), 1);
    }
}
