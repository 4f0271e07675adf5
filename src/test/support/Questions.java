import java.util.ArrayList;
import java.util.List;
import java.util.function.ToLongFunction;

/** All questions of a BRIGADE (12 SECONDS, three HANDS, a row in SLOT 0), with what is due if there is none. */
public final class Questions {
    private final List<Call> all = new ArrayList<>();

    private Questions() {
    }

    public static List<Call> ofBrigade() {
        Questions questions = new Questions();
        questions.told();
        questions.seconds();
        questions.overall();
        questions.otherwise();
        questions.orders();
        questions.sets();
        questions.slips();
        return questions.all;
    }

    private void ask(String name, ToLongFunction<HandLine> made) {
        all.add(new Call(name, made, -2));
    }

    private void told() {
        ask("hand(0, 0)", x -> x.hand(0, 0));
        ask("hand(2, 1)", x -> x.hand(2, 1));
        ask("pair(0, 0)", x -> x.pair(0, 0));
        ask("pair(1, 2)", x -> x.pair(1, 2));
        ask("keeps(0)", x -> x.keeps(0));
        ask("kept()", HandLine::kept);
    }

    private void seconds() {
        for (int s : new int[] {0, 11}) {
            ask("holds(0, " + s + ")", x -> x.holds(0, s));
            ask("held(0, " + s + ")", x -> x.held(0, s));
            ask("busy(" + s + ")", x -> x.busy(s));
            ask("waits(" + s + ")", x -> x.waits(s));
            ask("river(" + s + ")", x -> x.river(s));
            ask("thrown(" + s + ")", x -> x.thrown(s));
            ask("water(" + s + ")", x -> x.water(s));
            ask("spilt(" + s + ")", x -> x.spilt(s));
            ask("fire(" + s + ")", x -> x.fire(s));
            ask("ready(" + s + ")", x -> x.ready(s));
            ask("road(" + s + ")", x -> x.road(s));
            ask("left(" + s + ")", x -> x.left(s));
        }
    }

    private void overall() {
        ask("stays(0)", x -> x.stays(0));
        ask("idle(0)", x -> x.idle(0));
        ask("starts(0)", x -> x.starts(0));
        ask("passes(0)", x -> x.passes(0));
        ask("loses(0)", x -> x.loses(0));
        ask("out()", HandLine::out);
        ask("worst()", HandLine::worst);
        ask("when(0)", x -> x.when(0));
        ask("when(59)", x -> x.when(59));
        ask("gap()", HandLine::gap);
        ask("crowded()", HandLine::crowded);
        ask("full()", HandLine::full);
        ask("lazy()", HandLine::lazy);
        ask("queue()", HandLine::queue);
        ask("until(0)", x -> x.until(0));
        ask("until(9999)", x -> x.until(9999));
    }

    private void otherwise() {
        ask("with(1)", x -> x.with(1));
        ask("with(8)", x -> x.with(8));
        ask("ease(0)", x -> x.ease(0));
        ask("without(0)", x -> x.without(0));
        ask("settles()", HandLine::settles);
        ask("round()", HandLine::round);
        ask("rate(0)", x -> x.rate(0));
        ask("rate(1)", x -> x.rate(1));
        ask("slow()", HandLine::slow);
        ask("enough()", HandLine::enough);
        ask("size()", HandLine::size);
        ask("heat()", HandLine::heat);
    }

    private void orders() {
        ask("orders()", HandLine::orders);
        ask("best()", HandLine::best);
        ask("place(0)", x -> x.place(0));
        ask("soonest()", HandLine::soonest);
        ask("change()", HandLine::change);
        ask("lets()", HandLine::lets);
        ask("let()", HandLine::let);
        ask("fits(0)", x -> x.fits(0));
        ask("may(0, 0)", x -> x.may(0, 0));
        ask("ask(0)", x -> x.ask(0));
        ask("leaves(0)", x -> x.leaves(0));
    }

    private void sets() {
        ask("brings(0)", x -> x.brings(0));
        ask("brings(7)", x -> x.brings(7));
        ask("share(0, 0)", x -> x.share(0, 0));
        ask("share(0, 1)", x -> x.share(0, 1));
        ask("rests(0, 1)", x -> x.rests(0, 1));
        all.add(new Call("gets(0, 1, 0, 0)", x -> x.gets(0, 1, 0, 0), -1000));
        all.add(new Call("gets(2, 1, 1, 1)", x -> x.gets(2, 1, 1, 1), -1000));
    }

    private void slips() {
        ask("chance(0, 0, 0)", x -> x.chance(0, 0, 0));
        ask("chance(7, 1, 1)", x -> x.chance(7, 1, 1));
        ask("mean(0, 0)", x -> x.mean(0, 0));
        ask("mean(7, 1)", x -> x.mean(7, 1));
        ask("drawn(0, 0)", x -> x.drawn(0, 0));
        ask("drawn(5, 1)", x -> x.drawn(5, 1));
        ask("drawn(2000000000, 2)", x -> x.drawn(2_000_000_000, 2));
        ask("luck(0, 20)", x -> x.luck(0, 20));
    }
}
