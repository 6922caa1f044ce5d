import java.util.HashSet;
import java.util.Set;

/** The sentences of the promises 7 to 13: the list of frames. */
final class FramesBoundary {
    private static final String NO_FRAME = "Throws `IndexOutOfBoundsException` if there is no such frame";

    private static final int[][] COVERS = {
        {0, 111, 222, 1012, 1103, 1320, 313, 1201, 402, 1410, 21, 423, 120, 210, 301, 3, 102, 203, 302, 401},
        {0, 111, 222, 1012, 1103, 1320, 2021, 2210, 2302, 313, 1201, 2423, 400, 1411, 2120, 3, 102, 203, 301,
            402},
        {0, 111, 222, 1012, 1103, 1320, 2021, 2210, 2302, 3201, 3313, 423, 3120, 1401, 3412, 301, 1203, 2003,
            2102, 2400, 3000},
        {0, 111, 222, 1012, 1103, 1320, 2021, 2210, 2302, 3201, 3313, 4423, 3120, 1401, 3412, 4102, 4311, 3,
            400, 1203, 2103, 4000, 300, 2400, 3000, 4200},
        {0, 111, 222, 1012, 1103, 1320, 2021, 2210, 2302, 3201, 3313, 4423, 3120, 5400, 1411, 4102, 4311, 5013,
            3402, 5121, 203, 2103, 4000, 5202, 300, 400, 1200, 2400, 3000, 4200, 5300},
    };

    private final Sheet sheet;

    FramesBoundary(Sheet sheet) {
        this.sheet = sheet;
    }

    void list() {
        listAddAndCover();
        sheet.place("Promise 9: clear");
        sheet.test("Takes all frames off the list.", this::clears);
        sheet.place("Promise 10: frames");
        sheet.test("Returns the number of frames.", this::numberOfFrames);
        sheet.place("Promise 11: frameAt");
        sheet.test("Returns a frame.", this::frameOfTheList);
        sheet.test("`frame`: its number", this::frameByNumber);
        sheet.test("Returns 1000 times the port, plus 100 times the tag, plus 10 times the source, plus the "
                + "destination.", this::frameAsOneNumber);
        sheet.test(NO_FRAME, this::noSuchFrame);
        sheet.place("Promise 12: pairs");
        sheet.test("Returns how many pairs there are.", this::howManyPairs);
        sheet.place("Promise 13: pairsMet");
        sheet.test("Returns how many pairs are met by frames of the list.", this::howManyAreMet);
    }

    private void listAddAndCover() {
        sheet.place("Promise 7: add");
        sheet.test("Adds a frame to the end of the list.", this::addsToTheEnd);
        sheet.test("`port`: where it enters", this::enters);
        sheet.test("`tag`: 0 to 4", this::tags);
        sheet.test("`source`: 0 to 2", this::sources);
        sheet.test("`destination`: 0 to 3", this::destinations);
        sheet.test("Returns its number.", this::itsNumber);
        sheet.test("Throws `IndexOutOfBoundsException` if there is no such port", this::addWithoutPort);
        sheet.test("Throws `IllegalArgumentException` if another argument is out of its range", this::addFarValues);
        sheet.test("Throws `IllegalStateException` if there are 60 frames", this::addToSixty);
        sheet.place("Promise 8: cover");
        sheet.test("Adds frames to the end of the list until each pair is met by a frame of the list,",
                this::coversUntilAllAreMet);
        sheet.test("one by one: each time the frame that meets the most pairs that no frame of the list meets;",
                this::coversByTheMost);
        sheet.test("of several the one with the lowest port, then tag, then source, then destination.",
                this::coversByTheLowest);
        sheet.test("Returns how many frames were added.", this::howManyWereAdded);
        sheet.test("Throws `IllegalStateException` if there would be more than 60 frames", this::coversUpTo60);
    }

    // ---- promise 7

    private void addsToTheEnd() {
        VlanProbe x = new VlanProbe();
        int[] due = {3, 3423, 0, 3};
        for (int k = 0; k < due.length; k++) {
            add(x, due[k]);
            sheet.is("frames", x.frames(), k + 1);
            for (int j = 0; j <= k; j++) {
                sheet.is("frame " + j, x.frameAt(j), due[j]);
            }
        }
        x.cover();
        int last = x.add(1, 1, 1, 1);
        sheet.is("behind a cover", last, x.frames() - 1);
        sheet.is("behind a cover", x.frameAt(last), 1111);
    }

    private void enters() {
        for (int ports = 2; ports <= 6; ports++) {
            VlanProbe x = Probes.of(ports);
            for (int port = 0; port < ports; port++) {
                sheet.is("taken", x.add(port, 0, 0, 3), port);
                sheet.is("leaves at the others", x.expected(port), (1 << ports) - 1 - (1 << port));
                sheet.is("learned there", x.learned(1, 0), port);
            }
        }
    }

    private void tags() {
        VlanProbe x = new VlanProbe();
        for (int tag = 0; tag <= 4; tag++) {
            sheet.is("taken", x.frameAt(x.add(1, tag, 1, 1)), 1011 + 100 * tag);
        }
        for (int tag : Sheet.outside(0, 4)) {
            sheet.refused("tag " + tag, Sheet.ARGUMENT, () -> x.add(3, tag, 1, 1));
        }
    }

    private void sources() {
        VlanProbe x = new VlanProbe();
        for (int source = 0; source <= 2; source++) {
            sheet.is("taken", x.frameAt(x.add(1, 1, source, 1)), 1101 + 10 * source);
        }
        for (int source : Sheet.outside(0, 2)) {
            sheet.refused("source " + source, Sheet.ARGUMENT, () -> x.add(3, 1, source, 1));
        }
    }

    private void destinations() {
        VlanProbe x = new VlanProbe();
        for (int destination = 0; destination <= 3; destination++) {
            sheet.is("taken", x.frameAt(x.add(1, 1, 1, destination)), 1110 + destination);
        }
        for (int destination : Sheet.outside(0, 3)) {
            sheet.refused("destination " + destination, Sheet.ARGUMENT, () -> x.add(3, 1, 1, destination));
        }
    }

    private void itsNumber() {
        VlanProbe x = new VlanProbe();
        for (int time = 0; time < 2; time++) {
            for (int k = 0; k <= 59; k++) {
                sheet.is("its number", x.add(k % 4, k % 5, k % 3, k % 2), k);
            }
            x.clear();
        }
        int covered = x.cover();
        sheet.is("behind a cover", x.add(0, 0, 0, 0), covered);
        x.begin(3);
        sheet.is("begun", x.add(0, 0, 0, 0), 0);
    }

    private void addWithoutPort() {
        for (int ports = 2; ports <= 6; ports++) {
            VlanProbe x = Probes.of(ports);
            for (int port : Sheet.outside(0, ports - 1)) {
                sheet.refused("add(" + port + ", 0, 0, 0) of " + ports, Sheet.INDEX, () -> x.add(port, 0, 0, 0));
            }
            sheet.is("frames", x.frames(), 0);
        }
        sheet.changesNothing(Probes.busy(), "add(6, 4, 2, 3)", Sheet.INDEX, x -> x.add(6, 4, 2, 3));
        sheet.changesNothing(Probes.busy(), "add(-1, 0, 0, 0)", Sheet.INDEX, x -> x.add(-1, 0, 0, 0));
    }

    private void addFarValues() {
        sheet.changesNothing(Probes.busy(), "tag -1", Sheet.ARGUMENT, x -> x.add(4, -1, 0, 3));
        sheet.changesNothing(Probes.busy(), "tag 5", Sheet.ARGUMENT, x -> x.add(4, 5, 0, 3));
        sheet.changesNothing(Probes.busy(), "source -1", Sheet.ARGUMENT, x -> x.add(4, 1, -1, 3));
        sheet.changesNothing(Probes.busy(), "source 3", Sheet.ARGUMENT, x -> x.add(4, 1, 3, 3));
        sheet.changesNothing(Probes.busy(), "destination -1", Sheet.ARGUMENT, x -> x.add(4, 1, 0, -1));
        sheet.changesNothing(Probes.busy(), "destination 4", Sheet.ARGUMENT, x -> x.add(4, 1, 0, 4));
        VlanProbe x = new VlanProbe();
        sheet.refused("all three", Sheet.ARGUMENT, () -> x.add(0, 5, 3, 4));
        sheet.refused("far values that are right together", Sheet.ARGUMENT, () -> x.add(1, -1, 10, 0));
        sheet.is("frames", x.frames(), 0);
    }

    private void addToSixty() {
        VlanProbe x = new VlanProbe();
        Probes.fill(x, 59, 0, 0, 0, 3);
        sheet.is("the last one that is taken", x.add(1, 0, 0, 3), 59);
        for (int time = 0; time < 3; time++) {
            sheet.refused("one more", Sheet.STATE, () -> x.add(2, 0, 0, 3));
        }
        sheet.is("frames", x.frames(), 60);
        sheet.is("frame 0", x.frameAt(0), 3);
        sheet.is("frame 59", x.frameAt(59), 1003);
        sheet.is("the last one that was run", x.learned(1, 0), 1);
        x.clear();
        sheet.is("there is room again", x.add(2, 0, 0, 3), 0);
        Probes.fill(x, 60, 0, 0, 0, 3);
        sheet.refused("full again", Sheet.STATE, () -> x.add(2, 0, 0, 3));
        x.begin(4);
        sheet.is("there is room again", x.add(2, 0, 0, 3), 0);
        VlanProbe full = Probes.busy();
        Probes.fill(full, 60, 4, 1, 1, 3);
        sheet.changesNothing(full, "one more", Sheet.STATE, y -> y.add(5, 0, 2, 3));
    }

    // ---- promise 8

    private void coversUntilAllAreMet() {
        for (int ports = 2; ports <= 6; ports++) {
            VlanProbe x = Probes.of(ports);
            x.cover();
            sheet.is("met by the frames of " + ports, x.pairsMet(), x.pairs());
            int frames = x.frames();
            VlanProbe y = Probes.of(ports);
            for (int k = 0; k < frames; k++) {
                sheet.is("not yet all are met", y.pairsMet() < y.pairs(), true);
                add(y, x.frameAt(k));
            }
            sheet.is("all are met by the last one", y.pairsMet(), y.pairs());
            sheet.is("no frame is left", y.cover(), 0);
            sheet.is("frames stay", y.frames(), frames);
        }
        addsWhatIsRun();
        VlanProbe x = new VlanProbe();
        int[] ahead = {3423, 0, 3423};
        for (int frame : ahead) {
            add(x, frame);
        }
        x.cover();
        for (int k = 0; k < ahead.length; k++) {
            sheet.is("what was there stays ahead", x.frameAt(k), ahead[k]);
        }
        sheet.is("met with these", x.pairsMet(), 95);
    }

    private void addsWhatIsRun() {
        VlanProbe x = Probes.of(2);
        x.fault(1, VlanProbe.DEAD);
        sheet.is("asked ahead", x.differing(), 0);
        sheet.is("asked ahead", x.learned(1, 0), VlanProbe.NONE);
        x.cover();
        sheet.is("1012, 0021 and 0003 differ", x.differing(), 1L << 3 | 1L << 10 | 1L << 15);
        sheet.is("learned by 0000", x.learned(1, 0), 0);
        sheet.is("learned by 1012", x.learned(1, 1), 1);
    }

    private void coversByTheMost() {
        areChosen(Probes.of(2));
        areChosen(Probes.of(6));
        areChosen(Probes.trunks(5), 4423);
        areChosen(Probes.of(4), 0, 3423, 0, 1111);
        areChosen(Probes.of(3), 110, 1010, 1100, 1313, 2221, 2003, 402);
        VlanProbe x = Probes.of(2);
        for (int k = 0; k < 19; k++) {
            add(x, COVERS[0][k]);
        }
        areChosen(x);
        sheet.is("one pair was left", x.frames(), 20);
    }

    /** Each frame that is added meets more new pairs than any lower one, and no fewer than any other. */
    private void areChosen(VlanProbe x, int... ahead) {
        for (int frame : ahead) {
            add(x, frame);
        }
        int before = x.frames();
        x.cover();
        int frames = x.frames();
        Set<Integer> met = new HashSet<>();
        for (int k = 0; k < frames; k++) {
            int frame = x.frameAt(k);
            if (k >= before) {
                sheet.is("frame " + k, frame, bestOf(x.ports(), met));
            }
            met.addAll(pairsOf(frame));
        }
    }

    private static int bestOf(int ports, Set<Integer> met) {
        int best = -1;
        int most = 0;
        for (int frame = 0; frame < 1000 * ports; frame++) {
            if (frame / 100 % 10 <= 4 && frame / 10 % 10 <= 2 && frame % 10 <= 3) {
                Set<Integer> fresh = pairsOf(frame);
                fresh.removeAll(met);
                if (fresh.size() > most) {
                    most = fresh.size();
                    best = frame;
                }
            }
        }
        return best;
    }

    private static Set<Integer> pairsOf(int frame) {
        int[] values = {frame / 1000, 10 + frame / 100 % 10, 20 + frame / 10 % 10, 30 + frame % 10};
        Set<Integer> result = new HashSet<>();
        for (int one = 0; one < 4; one++) {
            for (int two = one + 1; two < 4; two++) {
                result.add(100 * values[one] + values[two]);
            }
        }
        return result;
    }

    private void coversByTheLowest() {
        for (int ports = 2; ports <= 6; ports++) {
            VlanProbe x = Probes.of(ports);
            x.cover();
            int[] due = COVERS[ports - 2];
            for (int k = 0; k < due.length; k++) {
                sheet.is("frame " + k + " of " + ports, x.frameAt(k), due[k]);
            }
        }
        isNext("all meet six: the lowest of each", 0);
        isNext("the lowest port is ahead of the lowest tag", 111, 0);
        isNext("the lowest tag is ahead of the lowest source", 1012, 0, 111, 222);
        isNext("the lowest port is ahead of the port that has no frame", 0, 3423);
    }

    private void isNext(String what, int due, int... ahead) {
        VlanProbe x = Probes.of(4);
        for (int frame : ahead) {
            add(x, frame);
        }
        x.cover();
        sheet.is(what, x.frameAt(ahead.length), due);
    }

    private void howManyWereAdded() {
        for (int ports = 2; ports <= 6; ports++) {
            VlanProbe x = Probes.of(ports);
            int due = COVERS[ports - 2].length;
            sheet.is("of none", x.cover(), due);
            sheet.is("frames", x.frames(), due);
            sheet.is("of all", x.cover(), 0);
            x.clear();
            Probes.fill(x, 3, 0, 0, 0, 0);
            sheet.is("not those that were there", x.cover(), due - 1);
            sheet.is("frames", x.frames(), due + 2);
        }
    }

    private void coversUpTo60() {
        for (int ports = 2; ports <= 6; ports++) {
            int most = 61 - COVERS[ports - 2].length;
            VlanProbe x = Probes.of(ports);
            Probes.fill(x, most, 0, 0, 0, 0);
            sheet.is("up to 60", x.cover(), 60 - most);
            sheet.is("60 frames", x.frames(), 60);
            sheet.is("all are met", x.pairsMet(), x.pairs());
            sheet.is("60 frames that meet all", x.cover(), 0);
            sheet.is("60 frames still", x.frames(), 60);
            VlanProbe y = Probes.of(ports);
            Probes.fill(y, most + 1, 0, 0, 0, 0);
            sheet.changesNothing(y, "up to 61", Sheet.STATE, z -> z.cover());
            sheet.is("frames stay", y.frames(), most + 1);
            sheet.is("the next one's number", y.add(1, 4, 2, 3), most + 1);
        }
        VlanProbe full = new VlanProbe();
        Probes.fill(full, 60, 3, 4, 2, 3);
        sheet.changesNothing(full, "60 that do not meet all", Sheet.STATE, x -> x.cover());
        VlanProbe nearly = Probes.of(2);
        for (int k = 0; k < 19; k++) {
            add(nearly, COVERS[0][k]);
        }
        Probes.fill(nearly, 59, 0, 0, 0, 0);
        sheet.is("the 60th meets the last pair", nearly.cover(), 1);
        VlanProbe none = Probes.of(2);
        for (int k = 0; k < 19; k++) {
            add(none, COVERS[0][k]);
        }
        Probes.fill(none, 60, 0, 0, 0, 0);
        sheet.refused("the 61st would meet the last pair", Sheet.STATE, () -> none.cover());
        sheet.is("60 frames", none.frames(), 60);
    }

    // ---- promise 9

    private void clears() {
        VlanProbe x = new VlanProbe();
        x.clear();
        sheet.is("an empty list", x.frames(), 0);
        x.trunk(3, 15, 2);
        x.fault(1, VlanProbe.DEAD);
        for (int frames : new int[] {1, 60, 2}) {
            Probes.fill(x, frames, 0, 0, 0, 3);
            sheet.is("a difference", x.differing() != 0, true);
            x.clear();
            sheet.is("frames", x.frames(), 0);
            sheet.refused("frameAt(0)", Sheet.INDEX, () -> x.frameAt(0));
            sheet.refused("expected(0)", Sheet.INDEX, () -> x.expected(0));
            sheet.refused("seen(0)", Sheet.INDEX, () -> x.seen(0));
            sheet.is("pairs met", x.pairsMet(), 0);
            sheet.is("learned", x.learned(1, 0), VlanProbe.NONE);
            sheet.is("differing", x.differing(), 0);
            sheet.is("differences", x.differencesAt(1), 0);
            sheet.is("blame", x.blame(), 0);
            x.clear();
        }
        sheet.is("the ports stay", x.ports(), 4);
        sheet.is("the first frame's number", x.add(3, 0, 0, 3), 0);
        sheet.is("the TRUNK port stays", x.learned(2, 0), 3);
        sheet.same("the faults stay", Probes.faultsOf(x), ", faults 10");
    }

    // ---- promise 10

    private void numberOfFrames() {
        VlanProbe x = new VlanProbe();
        sheet.is("at first", x.frames(), 0);
        for (int k = 1; k <= 60; k++) {
            x.add(0, 0, 0, 0);
            sheet.is("added", x.frames(), k);
        }
        sheet.refused("add", Sheet.STATE, () -> x.add(0, 0, 0, 0));
        sheet.is("after a throw", x.frames(), 60);
        x.clear();
        sheet.is("cleared", x.frames(), 0);
        sheet.refused("add", Sheet.INDEX, () -> x.add(4, 0, 0, 0));
        sheet.is("after a throw", x.frames(), 0);
        x.cover();
        sheet.is("covered", x.frames(), 21);
        x.begin(4);
        sheet.is("begun", x.frames(), 0);
    }

    // ---- promise 11

    private void frameOfTheList() {
        VlanProbe x = Probes.of(6);
        for (int k = 0; k <= 59; k++) {
            x.add(k % 6, k % 5, k % 3, k % 4);
        }
        for (int k = 59; k >= 0; k--) {
            sheet.is("frame " + k, x.frameAt(k), 1000 * (k % 6) + 100 * (k % 5) + 10 * (k % 3) + k % 4);
        }
    }

    private void frameByNumber() {
        VlanProbe x = new VlanProbe();
        x.add(0, 0, 0, 1);
        sheet.is("the first is the last", x.frameAt(0), 1);
        x.add(0, 0, 0, 2);
        sheet.is("the first", x.frameAt(0), 1);
        sheet.is("the last", x.frameAt(1), 2);
        Probes.fill(x, 59, 0, 0, 0, 0);
        x.add(0, 0, 0, 3);
        sheet.is("the first of 60", x.frameAt(0), 1);
        sheet.is("the last of 60", x.frameAt(59), 3);
    }

    private void frameAsOneNumber() {
        VlanProbe x = Probes.of(6);
        sheet.is("the lowest", x.frameAt(x.add(0, 0, 0, 0)), 0);
        sheet.is("the highest", x.frameAt(x.add(5, 4, 2, 3)), 5423);
        sheet.is("the port", x.frameAt(x.add(5, 0, 0, 0)), 5000);
        sheet.is("the tag", x.frameAt(x.add(0, 4, 0, 0)), 400);
        sheet.is("the source", x.frameAt(x.add(0, 0, 2, 0)), 20);
        sheet.is("the destination", x.frameAt(x.add(0, 0, 0, 3)), 3);
        sheet.is("all of them", x.frameAt(x.add(4, 3, 2, 1)), 4321);
    }

    private void noSuchFrame() {
        VlanProbe x = new VlanProbe();
        for (int frames : new int[] {0, 1, 2, 59, 60}) {
            Probes.fill(x, frames, 0, 0, 0, 0);
            sheet.onlyFrames("frameAt", frames, k -> x.frameAt(k));
        }
        x.clear();
        sheet.onlyFrames("frameAt", 0, k -> x.frameAt(k));
    }

    // ---- promises 12 and 13

    private void howManyPairs() {
        int[] due = {71, 83, 95, 107, 119};
        sheet.is("of a new one", new VlanProbe().pairs(), 95);
        for (int ports = 2; ports <= 6; ports++) {
            VlanProbe x = Probes.of(ports);
            sheet.is("of " + ports, x.pairs(), due[ports - 2]);
            x.trunk(0, 15, 1);
            x.cover();
            sheet.is("of " + ports + ", all met", x.pairs(), due[ports - 2]);
        }
    }

    private void howManyAreMet() {
        VlanProbe x = Probes.of(6);
        sheet.is("by none", x.pairsMet(), 0);
        x.add(5, 4, 2, 3);
        sheet.is("by one", x.pairsMet(), 6);
        x.add(5, 4, 2, 3);
        sheet.is("by the same again", x.pairsMet(), 6);
        x.add(0, 0, 0, 0);
        sheet.is("by another", x.pairsMet(), 12);
        Probes.fill(x, 60, 0, 0, 0, 0);
        sheet.is("by 60", x.pairsMet(), 12);
        x.clear();
        sheet.is("by none any more", x.pairsMet(), 0);
        x.cover();
        sheet.is("all", x.pairsMet(), 119);
        sheet.is("all, asked again", x.pairsMet(), 119);
        x.add(3, 3, 1, 1);
        sheet.is("no more than all", x.pairsMet(), 119);
        x.begin(2);
        sheet.is("begun", x.pairsMet(), 0);
        Probes.fill(x, 59, 0, 0, 0, 0);
        x.add(1, 4, 2, 3);
        sheet.is("by frame 59, too", x.pairsMet(), 12);
    }

    // ---- what they share

    private static void add(VlanProbe x, int frame) {
        x.add(frame / 1000, frame / 100 % 10, frame / 10 % 10, frame % 10);
    }
}
