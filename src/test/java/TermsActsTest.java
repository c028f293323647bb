import static java.lang.Integer.MAX_VALUE;
import static java.lang.Integer.MIN_VALUE;

import java.util.ArrayList;
import java.util.List;
import java.util.function.Supplier;
import java.util.function.ToLongFunction;

/**
 * Terms III, ACTS and TROUBLE: what can be undone; which refusal is told where several hold; that what is refused, and
 * what is asked on paper, changes nothing but what the document says.
 */
public final class TermsActsTest {
    /** A call, as it is written, and by what it is due to be refused; 0: it isn't. */
    private record Call(String told, ToLongFunction<RingWaters> made, int why) { }

    public static void main(String[] args) {
        latestTwelve();
        unlikeOnesBeyondTwelve();
        latestFirst();
        refusedActsAreNone();
        aTextLeavesNone();
        ofSeveralTheFirst();
        refusedChangesNothing();
        faultChangesTapeAndFaultAlone();
        onPaperNothingChanges();
        callsWithoutTrouble();
        Check.end();
    }

    // ---- how an object stands ahead of a call

    private static RingWaters fresh() {
        return new RingWaters();
    }

    /** No TEXT, though one was told that had a FAULT; and something on THE TAPE. */
    private static RingWaters faulty() {
        RingWaters x = new RingWaters();
        Tape.tell(x, "well w 9");
        Tape.feed(x, "well q 3;joint r 2 at 1;pipe q r 5");
        return x;
    }

    /** A RING, acts, HEADS that were measured, a FAULT behind it, a TEXT on THE TAPE. */
    private static RingWaters ringed() {
        RingWaters x = Tape.told("well w 50;joint a 10 at 20;joint b 6 at 10;pipe w a 1;pipe a b 2;pipe w b 3");
        x.well(40);
        x.draw(2, 20);
        x.resist(1, 4);
        x.measure(1, 3900);
        x.measure(2, 3800);
        Tape.tell(x, "well w 9");
        Tape.feed(x, " a                  well q 3;joint r 2 at 1;pipe q r 5");
        x.flow(0);
        return x;
    }

    /** JOINTS: a by a pump, b DRY by a check that is SHUT, c by a pipe. */
    private static RingWaters dry() {
        RingWaters x = Tape.told("well w 9;joint a 5 at 0;joint b 3 at 0;joint c 1 at 0;pump w a 8,7;check b a 4;pipe a c 2");
        x.measure(2, 5);
        return x;
    }

    /** Nothing measured, no acts, no RING, no pipe to widen. */
    private static RingWaters bare() {
        return Tape.told("well w 9;joint a 1 at 0;pipe w a 1");
    }

    // ---- acts

    private static void latestTwelve() {
        Check.under("III. the latest 12 that weren't refused can be undone");
        RingWaters x = bare();
        for (int i = 1; i <= 13; i++) {
            x.draw(1, 10 + i);
            Check.answers("acts behind " + i, x, x.about(7), i <= 12 ? i : 12);
        }
        for (int left = 11; left >= 0; left--) {
            Check.answers("undo", x, x.undo(), left);
            Check.answers("as it was ahead of it", x, x.joint(1, 0), 11 + left);
        }
        Check.refused("the first of 13 can't be", x, x.undo(), 5);
        Check.answers("and stays", x, x.joint(1, 0), 11);
        Check.under("III. exactly 12: back to what the TEXT told");
        x = bare();
        for (int i = 1; i <= 12; i++) {
            x.well(20 + i);
        }
        for (int left = 11; left >= 0; left--) {
            Check.answers("undo", x, x.undo(), left);
        }
        Check.answers("as told", x, x.head(0), 900);
        Check.refused("none left", x, x.undo(), 5);
        Check.under("III. full, one undone, one done: 12 again, and none forgotten");
        x = bare();
        for (int i = 1; i <= 12; i++) {
            x.draw(1, 10 + i);
        }
        x.undo();
        Check.answers("11", x, x.about(7), 11);
        x.draw(1, 50);
        Check.answers("12", x, x.about(7), 12);
        for (int left = 11; left >= 0; left--) {
            Check.answers("undo", x, x.undo(), left);
        }
        Check.answers("as told", x, x.joint(1, 0), 1);
    }

    private static void unlikeOnesBeyondTwelve() {
        Check.under("III. the latest 12 of 14 unlike ones: each comes back to its own");
        RingWaters x = Tape.told("well w 9;joint a 1 at 0;joint b 1 at 0;pipe w a 2;pipe w b 2;pipe a b 2");
        x.draw(2, 7);
        x.valve(2, true);
        for (int i = 0; i < 3; i++) {
            x.well(20 + i);
            x.resist(i, 10 + i);
            x.draw(1 + i % 2, 30 + i);
            x.valve(i, i != 2);
        }
        Check.answers("12", x, x.about(7), 12);
        for (int i = 2; i >= 0; i--) {
            Check.answers("CLOSED", x, x.edge(i, 4), i == 2 ? 0 : 1);
            x.undo();
            Check.answers("valve undone", x, x.edge(i, 4), i == 2 ? 1 : 0);
            x.undo();
            Check.answers("draw undone", x, x.joint(1 + i % 2, 0), i == 2 ? 30 : i == 1 ? 7 : 1);
            x.undo();
            Check.answers("resist undone", x, x.edge(i, 3), 2);
            x.undo();
            Check.answers("well undone", x, x.head(0), i == 0 ? 900 : 100 * (19 + i));
        }
        Check.refused("the first two can't be", x, x.undo(), 5);
        Check.answers("the first draw stays", x, x.joint(2, 0), 7);
        Check.answers("the first valve stays", x, x.edge(2, 4), 1);
    }

    private static void latestFirst() {
        Check.under("III. ACTS: valve(), draw(), well(), resist(); the latest first");
        RingWaters x = Tape.told("well w 9;joint a 1 at 0;pipe w a 2;pipe w a 3");
        x.valve(1, true);
        x.draw(1, 2);
        x.well(8);
        x.resist(0, 4);
        Check.answers("four", x, x.about(7), 4);
        Check.answers("by all", x, x.head(1), 800 - 16);
        x.undo();
        Check.answers("resist undone", x, x.head(1), 800 - 8);
        x.undo();
        Check.answers("well undone", x, x.head(1), 900 - 8);
        x.undo();
        Check.answers("draw undone", x, x.head(1), 900 - 2);
        Check.answers("CLOSED still", x, x.edge(1, 4), 1);
        x.undo();
        Check.answers("valve undone", x, x.edge(1, 4), 0);
        Check.under("III. the latest first: two of one kind at one place");
        x.resist(0, 5);
        x.resist(1, 6);
        x.resist(0, 7);
        x.undo();
        Check.answers("5 again", x, x.edge(0, 3), 5);
        Check.answers("6 still", x, x.edge(1, 3), 6);
        x.undo();
        x.undo();
        Check.answers("2 again", x, x.edge(0, 3), 2);
        Check.answers("3 again", x, x.edge(1, 3), 3);
        Check.under("III. undoing is no act, nor is measuring, forgetting, asking");
        x = bare();
        x.draw(1, 5);
        x.measure(1, 9);
        x.fire(1, 0);
        x.forget();
        x.undo();
        Check.answers("none", x, x.about(7), 0);
        Check.refused("none to undo", x, x.undo(), 5);
        Check.answers("undone for good", x, x.joint(1, 0), 1);
    }

    private static void refusedActsAreNone() {
        Check.under("III. those that were refused can't be undone");
        RingWaters x = dry();
        x.draw(1, 6);
        x.valve(3, true);
        x.valve(0, false);
        x.draw(0, 1);
        x.draw(1, 61);
        x.well(1000);
        x.resist(0, 1);
        x.resist(1, 21);
        Check.answers("one", x, x.about(7), 1);
        Check.answers("undo", x, x.undo(), 0);
        Check.answers("as told", x, x.joint(1, 0), 5);
        Check.under("III. an act that leaves all as it was is one all the same: it wasn't refused");
        x = bare();
        x.draw(1, 1);
        x.well(9);
        x.resist(0, 1);
        Check.answers("three", x, x.about(7), 3);
    }

    private static void aTextLeavesNone() {
        Check.under("III. a TEXT leaves none");
        RingWaters x = bare();
        x.draw(1, 6);
        Tape.tell(x, "well w 9;joint a 1 at 0;pipe w a 1");
        Check.answers("none", x, x.about(7), 0);
        Check.refused("none to undo", x, x.undo(), 5);
        Check.answers("as the second tells", x, x.joint(1, 0), 1);
        Check.under("III. a TEXT that is refused leaves them");
        x.draw(1, 6);
        Tape.tell(x, "well w 9;joint a 1 at 0");
        x.text(1);
        Check.answers("one", x, x.about(7), 1);
        Check.answers("undo", x, x.undo(), 0);
    }

    // ---- which refusal is told

    private static void ofSeveralTheFirst() {
        Check.under("III. Of several the one that the call tells first: no TEXT, then the number");
        for (int bad : new int[] {MIN_VALUE, MAX_VALUE}) {
            refusals(TermsActsTest::faulty, List.of(
                    nothing("early", x -> x.early(0, bad), 1), nothing("gap", x -> x.gap(bad), 1),
                    nothing("lossAt", x -> x.lossAt(0, bad, 0), 1), nothing("scaled", x -> x.scaled(bad), 1),
                    none("most", x -> x.most(bad), 1), none("fire", x -> x.fire(1, bad), 1),
                    none("measure", x -> x.measure(1, bad), 1), nothing("off", x -> x.off(1, bad), 1),
                    none("draw", x -> x.draw(1, bad), 1), none("well", x -> x.well(bad), 1),
                    none("resist", x -> x.resist(0, bad), 1), none("text", x -> x.text(bad), 2)));
            Check.under("III. Of several: no such JOINT, EDGE, what (1), then the number (2)");
            refusals(TermsActsTest::ringed, List.of(
                    nothing("early", x -> x.early(3, bad), 1), nothing("lossAt e", x -> x.lossAt(3, bad, 0), 1),
                    nothing("lossAt what", x -> x.lossAt(0, bad, 2), 1), nothing("lossAt what", x -> x.lossAt(0, bad, -1), 1),
                    none("fire at the well", x -> x.fire(0, bad), 1), none("fire", x -> x.fire(3, bad), 1),
                    none("measure the well", x -> x.measure(0, bad), 1), none("measure", x -> x.measure(3, bad), 1),
                    nothing("off at the well", x -> x.off(0, bad), 1), nothing("off", x -> x.off(3, bad), 1),
                    none("draw at the well", x -> x.draw(0, bad), 1), none("draw", x -> x.draw(3, bad), 1),
                    none("resist", x -> x.resist(3, bad), 1)));
        }
        Check.under("III. Of several: no TEXT (1), then not so (5)");
        refusals(TermsActsTest::faulty, List.of(
                nothing("head", x -> x.head(1), 1), nothing("pressure", x -> x.pressure(1), 1),
                nothing("scaled", x -> x.scaled(100), 1), nothing("widened", x -> x.widened(), 1),
                nothing("off", x -> x.off(1, 0), 1), nothing("leak", x -> x.leak(0), 1),
                none("valve", x -> x.valve(0, false), 1), none("resist", x -> x.resist(0, 1), 1),
                none("undo", x -> x.undo(), 1)));
        Check.under("III. Of several: no such one (1), then not so (5): nothing measured, no acts");
        refusals(TermsActsTest::bare, List.of(
                nothing("off at the well", x -> x.off(0, 0), 1), nothing("off", x -> x.off(2, 0), 1),
                nothing("leak what -1", x -> x.leak(-1), 1), nothing("leak what 3", x -> x.leak(3), 1),
                none("valve", x -> x.valve(1, false), 1), none("valve", x -> x.valve(-1, false), 1)));
        Check.under("III. Of several: off() tells a number (2) ahead of none measured (5)");
        refusals(TermsActsTest::bare, List.of(
                nothing("off -1", x -> x.off(1, -1), 2), nothing("off 41", x -> x.off(1, 41), 2),
                nothing("off 0", x -> x.off(1, 0), 5), nothing("off 40", x -> x.off(1, 40), 5)));
        Check.under("III. Of several: scaled() tells a number (2) ahead of DRY (5)");
        refusals(TermsActsTest::dry, List.of(
                nothing("scaled -1", x -> x.scaled(-1), 2), nothing("scaled 301", x -> x.scaled(301), 2),
                nothing("scaled 300", x -> x.scaled(300), 5)));
        Check.under("III. Of several: resist() tells a pump (5) ahead of a number (2)");
        refusals(TermsActsTest::dry, List.of(
                none("a pump, 0", x -> x.resist(0, 0), 5), none("a pump, 21", x -> x.resist(0, 21), 5),
                none("a pump, 1", x -> x.resist(0, 1), 5), none("a check, 0", x -> x.resist(1, 0), 2),
                none("a check, 21", x -> x.resist(1, 21), 2), none("a pipe, 0", x -> x.resist(2, 0), 2)));
        Check.under("III. Of several: text() tells a number (2) ahead of a FAULT (4)");
        refusals(TermsActsTest::faulty, List.of(
                none("text -1", x -> x.text(-1), 2), none("text 41", x -> x.text(41), 2), none("text 5", x -> x.text(5), 4)));
    }

    private static Call none(String told, ToLongFunction<RingWaters> made, int why) {
        return new Call(told, made, why);
    }

    private static Call nothing(String told, ToLongFunction<RingWaters> made, int why) {
        return new Call(told + " (long)", made, why);
    }

    /** Each on an object of its own. */
    private static void refusals(Supplier<RingWaters> as, List<Call> calls) {
        for (Call call : calls) {
            refuses(as.get(), call);
        }
    }

    private static void refuses(RingWaters x, Call call) {
        boolean isLong = call.told().endsWith("(long)");
        Check.due(call.told(), call.made().applyAsLong(x), isLong ? RingWaters.NOTHING : RingWaters.NONE);
        Check.due(call.told() + ", trouble", x.trouble(), call.why());
        Check.due(call.told() + ", where", x.where() >= 0 ? 1 : 0, call.why() == 4 ? 1 : 0);
    }

    // ---- what changes

    /** One object is asked, its twin isn't: what they tell is the same. */
    private static void stays(Supplier<RingWaters> as, Call call) {
        RingWaters x = as.get();
        refuses(x, call);
        same(call.told(), Picture.butTrouble(x), Picture.butTrouble(as.get()));
    }

    private static void same(String what, List<String> got, List<String> due) {
        for (int i = 0; i < Math.max(got.size(), due.size()); i++) {
            String a = i < got.size() ? got.get(i) : "none";
            String b = i < due.size() ? due.get(i) : "none";
            Check.isTrue("behind " + what + ": " + a + ", due is " + b, a.equals(b));
        }
    }

    private static void refusedChangesNothing() {
        Check.under("III. What is refused changes nothing but trouble(), where(): no TEXT");
        for (Call call : withoutText()) {
            stays(TermsActsTest::fresh, call);
            stays(TermsActsTest::faulty, call);
        }
        Check.under("III. What is refused changes nothing but trouble(), where(): none such, numbers");
        for (Call call : withText()) {
            stays(TermsActsTest::ringed, call);
        }
        Check.under("III. What is refused changes nothing but trouble(), where(): not so");
        stays(TermsActsTest::dry, nothing("head(2)", x -> x.head(2), 5));
        stays(TermsActsTest::dry, nothing("pressure(2)", x -> x.pressure(2), 5));
        stays(TermsActsTest::dry, nothing("scaled(100)", x -> x.scaled(100), 5));
        stays(TermsActsTest::dry, none("resist(0, 5)", x -> x.resist(0, 5), 5));
        stays(TermsActsTest::dry, none("valve(1, false), SHUT", x -> x.valve(1, false), 5));
        stays(TermsActsTest::dry, none("undo()", x -> x.undo(), 5));
        stays(TermsActsTest::ringed, none("valve(0, false)", x -> x.valve(0, false), 5));
        stays(TermsActsTest::bare, nothing("off(1, 0)", x -> x.off(1, 0), 5));
        stays(TermsActsTest::bare, nothing("leak(0)", x -> x.leak(0), 5));
        stays(TermsActsTest::bare, nothing("widened()", x -> x.widened(), 5));
        Supplier<RingWaters> closed = () -> {
            RingWaters x = ringed();
            x.valve(0, true);
            return x;
        };
        stays(closed, none("valve(0, true)", x -> x.valve(0, true), 5));
    }

    private static List<Call> withoutText() {
        return List.of(none("about(0)", x -> x.about(0), 1), none("edge(0, 0)", x -> x.edge(0, 0), 1),
                nothing("flow(0)", x -> x.flow(0), 1), nothing("loss(0)", x -> x.loss(0), 1),
                none("joint(0, 0)", x -> x.joint(0, 0), 1), nothing("head(0)", x -> x.head(0), 1),
                nothing("pressure(0)", x -> x.pressure(0), 1), none("weakest()", x -> x.weakest(), 1),
                none("ring(0, 0)", x -> x.ring(0, 0), 1), nothing("sum(0, 0)", x -> x.sum(0, 0), 1),
                nothing("early(0, 0)", x -> x.early(0, 0), 1), nothing("work()", x -> x.work(), 1),
                nothing("gap(0)", x -> x.gap(0), 1), nothing("balance(1)", x -> x.balance(1), 1),
                nothing("lossAt(0, 0, 0)", x -> x.lossAt(0, 0, 0), 1), none("behind(0)", x -> x.behind(0), 1),
                nothing("scaled(0)", x -> x.scaled(0), 1), none("most(0)", x -> x.most(0), 1),
                none("pairs()", x -> x.pairs(), 1), none("fire(1, 0)", x -> x.fire(1, 0), 1),
                none("cut(0)", x -> x.cut(0), 1), none("vital()", x -> x.vital(), 1), none("widen()", x -> x.widen(), 1),
                nothing("widened()", x -> x.widened(), 1), none("measure(1, 0)", x -> x.measure(1, 0), 1),
                none("forget()", x -> x.forget(), 1), nothing("off(1, 0)", x -> x.off(1, 0), 1),
                nothing("leak(0)", x -> x.leak(0), 1), none("valve(0, true)", x -> x.valve(0, true), 1),
                none("draw(1, 0)", x -> x.draw(1, 0), 1), none("well(0)", x -> x.well(0), 1),
                none("resist(0, 1)", x -> x.resist(0, 1), 1), none("undo()", x -> x.undo(), 1));
    }

    /** Of a net with EDGES 0 .. 2, JOINTS 0 .. 2, one RING, 60 bytes on THE TAPE. */
    private static List<Call> withText() {
        List<Call> all = new ArrayList<>();
        for (int bad : new int[] {MIN_VALUE, -1, 61, MAX_VALUE}) {
            all.add(none("text " + bad, x -> x.text(bad), 2));
            all.add(nothing("early n " + bad, x -> x.early(0, bad), 2));
            all.add(nothing("gap " + bad, x -> x.gap(bad), 2));
            all.add(none("draw n " + bad, x -> x.draw(1, bad), 2));
            all.add(nothing("off n " + bad, x -> x.off(1, bad), 2));
        }
        for (int bad : new int[] {MIN_VALUE, -1, 3, MAX_VALUE}) {
            all.add(none("edge " + bad, x -> x.edge(bad, 0), 1));
            all.add(none("joint " + bad, x -> x.joint(bad, 0), 1));
            all.add(none("valve " + bad, x -> x.valve(bad, true), 1));
            all.add(none("resist " + bad, x -> x.resist(bad, 1), 1));
            all.add(none("draw " + bad, x -> x.draw(bad, 1), 1));
            all.add(none("measure " + bad, x -> x.measure(bad, 1), 1));
            all.add(none("cut " + bad, x -> x.cut(bad), 1));
            all.add(none("fire " + bad, x -> x.fire(bad, 0), 1));
        }
        for (int bad : new int[] {MIN_VALUE, -900001, 900001, MAX_VALUE}) {
            all.add(none("measure head " + bad, x -> x.measure(1, bad), 2));
            all.add(none("well " + bad, x -> x.well(bad), 2));
            all.add(none("resist n " + bad, x -> x.resist(0, bad), 2));
            all.add(none("most " + bad, x -> x.most(bad), 2));
            all.add(none("fire p " + bad, x -> x.fire(1, bad), 2));
            all.add(nothing("scaled " + bad, x -> x.scaled(bad), 2));
            all.add(nothing("lossAt f " + bad, x -> x.lossAt(0, bad, 0), 2));
            all.add(none("about " + bad, x -> x.about(bad), 1));
            all.add(nothing("leak " + bad, x -> x.leak(bad), 1));
        }
        all.add(none("well 1,000", x -> x.well(1000), 2));
        all.add(none("resist 0", x -> x.resist(0, 0), 2));
        all.add(none("resist 21", x -> x.resist(0, 21), 2));
        all.add(none("draw at the well", x -> x.draw(0, 1), 1));
        all.add(none("measure the well", x -> x.measure(0, 1), 1));
        all.add(none("ring 1", x -> x.ring(1, 0), 1));
        all.add(none("ring i -1", x -> x.ring(0, -1), 1));
        all.add(nothing("sum what 2", x -> x.sum(0, 2), 1));
        all.add(nothing("balance of the well", x -> x.balance(0), 1));
        return all;
    }

    private static void faultChangesTapeAndFaultAlone() {
        Check.under("III. by 4 THE TAPE (empty then), fault()");
        String[] texts = {"", "well w 9;joint a 61 at 0", "well w 9;joint w 1 at 0", "well w 9;joint z 1 at 1;pump w z 1,1,1,1,1,1,1",
            "well z 8;joint y 7 at 6;joint v 5 at 4;pipe z y 3"};
        int[] faults = {1, 2, 3, 4, 5};
        for (int i = 0; i < texts.length; i++) {
            RingWaters x = ringed();
            x.text(0);
            Check.due("empty", x.size(), 0);
            Tape.feed(x, texts[i] + "                         ");
            Check.refused("faulty", x, x.text(texts[i].length()), 4);
            Check.due("fault", x.fault(), faults[i]);
            Check.isTrue("where", x.where() >= 0);
            Check.due("empty, bytes behind the first n, too", x.size(), 0);
            same("FAULT " + faults[i], Picture.butTapeAndFault(x), Picture.butTapeAndFault(ringed()));
        }
        Check.under("III. by 4 ahead of any TEXT: there is none still");
        RingWaters x = fresh();
        Tape.tell(x, "well w 9;joint a 1 at 0;joint b 1 at 0;pipe w a 1");
        Check.due("fault", x.fault(), 5);
        same("FAULT 5", Picture.butTapeAndFault(x), Picture.butTapeAndFault(fresh()));
        Tape.feed(x, "a");
        Check.noSuch("no NAME either", x, 1);
    }

    private static void onPaperNothingChanges() {
        Check.under("III. ON PAPER nothing changes");
        List<Call> asked = List.of(new Call("scaled", x -> x.scaled(300), 0), new Call("most", x -> x.most(0), 0),
                new Call("pairs", x -> x.pairs(), 0), new Call("fire", x -> x.fire(1, 0), 0), new Call("cut", x -> x.cut(2), 0),
                new Call("vital", x -> x.vital(), 0), new Call("widen", x -> x.widen(), 0),
                new Call("widened", x -> x.widened(), 0), new Call("off", x -> x.off(2, 40), 0),
                new Call("leak", x -> x.leak(1), 0), new Call("early", x -> x.early(2, 0), 0), new Call("gap", x -> x.gap(0), 0));
        for (Call call : asked) {
            RingWaters x = ringed();
            call.made().applyAsLong(x);
            Check.due(call.told() + ", trouble", x.trouble(), 0);
            same(call.told(), Picture.butTrouble(x), Picture.butTrouble(ringed()));
        }
    }

    private static void callsWithoutTrouble() {
        Check.under("III. of the latest call that may be refused: feed(), named(), fault(), where(), size(), trouble() are none");
        for (int why : new int[] {0, 1, 2, 4, 5}) {
            RingWaters x = ringed();
            refuseBy(x, why);
            int where = x.where();
            Tape.feed(x, "a");
            x.feed(0, 0, 0, 0, 0);
            Check.due("an answer by named()", x.named(1), 1);
            Check.noSuch("none by named()", x, -1);
            x.fault();
            x.size();
            x.trouble();
            Check.due("trouble stays", x.trouble(), why);
            Check.due("where stays", x.where(), where);
            Check.due("where is told by 4 alone", where, why == 4 ? 8 : -1);
        }
        Check.under("III. a feed() that is refused changes nothing at all");
        RingWaters x = full();
        Check.due("refused", x.feed(0x61616161, 0x61616161, 0x61616161, 0x61616161, 0x61616161), -1);
        Check.due("trouble", x.trouble(), 5);
        Check.due("size", x.size(), 600);
        Check.due("what is on it", x.named(600), 1);
        same("a feed() too many", Picture.butTapeAndFault(x), Picture.butTapeAndFault(full()));
    }

    private static void refuseBy(RingWaters x, int why) {
        x.text(0);
        switch (why) {
            case 0: x.flow(0); break;
            case 1: x.flow(99); break;
            case 2: x.scaled(301); break;
            case 5: x.valve(0, false); break;
            default: Tape.tell(x, "well w 9");
        }
    }

    /** THE TAPE is full: blanks and a NAME at its end. */
    private static RingWaters full() {
        RingWaters x = bare();
        x.undo();
        Tape.feed(x, " ".repeat(599) + "a");
        return x;
    }
}
