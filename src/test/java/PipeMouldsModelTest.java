import java.util.ArrayList;
import java.util.List;
import java.util.Random;

/**
 * Long runs of calls, drawn with fixed seeds, on a PipeMoulds and on a slow model that was written
 * from the document by itself: every answer, every exception and the digest behind each call must agree.
 */
public final class PipeMouldsModelTest {
    private static final int RUNS = 2000;
    // The digest is asked behind each of them, so these are all the 512 calls that an object is used for.
    private static final int CALLS = 256;
    private static final String[] NAMES = {"mould", "refit", "maker", "place", "buy", "setDry", "pack", "fire",
        "order", "about", "told", "batch", "saggar", "store", "waits", "count", "pass", "breaks", "advise",
        "ready", "foresee", "mean", "digest"};
    // How often each call is drawn, in the order of the names.
    private static final int[] WEIGHTS = {4, 4, 4, 8, 5, 4, 30, 8, 14, 2, 2, 2, 2, 2, 2, 3, 16, 3, 4, 6, 4, 3, 1};

    public static void main(String[] args) {
        int wrong = 0;
        int[] answered = new int[NAMES.length];
        int[] thrown = new int[NAMES.length];
        for (int run = 0; run < RUNS && wrong < 10; run++) {
            wrong += compare(run, answered, thrown);
        }
        for (int call = 0; call < NAMES.length; call++) {
            boolean canThrow = !"advise mean digest".contains(NAMES[call]);
            if (answered[call] < 100 || canThrow && thrown[call] < 100) {
                wrong++;
                System.out.println(NAMES[call] + " was drawn too seldom: " + answered[call] + " answered, "
                        + thrown[call] + " thrown");
            }
        }
        System.out.println(RUNS + " runs of " + CALLS + " calls, " + wrong + " wrong");
        if (wrong != 0) {
            System.exit(1);
        }
    }

    private static int compare(int seed, int[] answered, int[] thrown) {
        Random random = new Random(seed);
        PipeMoulds x = new PipeMoulds();
        Model model = new Model();
        StringBuilder told = new StringBuilder();
        for (int number = 0; number < CALLS; number++) {
            int call = drawCall(random);
            int[] a = drawArguments(random, call, model);
            String want = answer(() -> onModel(model, call, a));
            String got = answer(() -> onPipeMoulds(x, call, a));
            told.append(NAMES[call]).append(java.util.Arrays.toString(a)).append(' ').append(want).append('\n');
            if (!got.equals(want) || x.digest() != model.digest()) {
                System.out.println("seed " + seed + ", call " + number + ":\n" + told + "answered " + got
                        + ", the digest " + x.digest() + ", due is " + model.digest());
                return 1;
            }
            if (want.startsWith("throws")) {
                thrown[call]++;
            } else {
                answered[call]++;
            }
        }
        return 0;
    }

    private interface Call {
        String run();
    }

    private static String answer(Call call) {
        try {
            return call.run();
        } catch (RuntimeException e) {
            return "throws " + e.getClass().getName();
        }
    }

    private static int drawCall(Random random) {
        int sum = 0;
        for (int weight : WEIGHTS) {
            sum += weight;
        }
        int at = random.nextInt(sum);
        int call = 0;
        while (at >= WEIGHTS[call]) {
            at -= WEIGHTS[call];
            call++;
        }
        return call;
    }

    /** Mostly from least to most; now and then one beside them, or a far one. */
    private static int draw(Random random, int least, int most) {
        int way = random.nextInt(60);
        if (way == 0) {
            return random.nextInt();
        }
        if (way == 1) {
            return least - 1;
        }
        if (way == 2) {
            return most + 1;
        }
        return least + random.nextInt(Math.max(1, most - least + 1));
    }

    private static int drawLength(Random random) {
        return random.nextBoolean() ? draw(random, 4, 24) : 7 + random.nextInt(3);
    }

    private static int[] drawArguments(Random random, int call, Model m) {
        switch (NAMES[call]) {
            case "mould":
                return new int[] {drawLength(random), random.nextBoolean() ? 9 : draw(random, 0, 9)};
            case "refit":
                return new int[] {draw(random, 0, m.moulds.size() - 1)};
            case "maker":
                return new int[] {draw(random, 1, 9)};
            case "place":
                return new int[] {draw(random, 0, m.makers.size() - 1), draw(random, -1, m.moulds.size() - 1)};
            case "buy":
                return new int[] {draw(random, 0, 1), random.nextInt(3) == 0 ? draw(random, 1, 200) : draw(random, 1, 20)};
            case "setDry":
                return new int[] {draw(random, 0, 6), draw(random, 0, 3)};
            case "pack":
                return new int[] {draw(random, 0, m.batches.size() - 1), draw(random, 0, 5),
                    random.nextInt(8) == 0 ? draw(random, 1, 24) : draw(random, 1, 9)};
            case "fire":
                return new int[] {random.nextInt(3) == 0 ? draw(random, 1, 30) : draw(random, 1, 9)};
            case "order":
                return new int[] {drawLength(random), random.nextBoolean() ? draw(random, 1, 6) : draw(random, 1, 99),
                    random.nextBoolean() ? draw(random, 0, 3) : draw(random, 0, 30), draw(random, 1, 99)};
            case "about":
                return new int[] {draw(random, 0, m.moulds.size() - 1), draw(random, 0, 5)};
            case "told":
                return new int[] {draw(random, 0, m.makers.size() - 1), draw(random, 0, 1)};
            case "batch":
                return new int[] {draw(random, 0, m.batches.size() - 1), draw(random, 0, 3)};
            case "saggar":
                return new int[] {draw(random, 0, 5), draw(random, 0, 3)};
            case "store":
                return new int[] {draw(random, 4, 24)};
            case "waits":
                return new int[] {draw(random, 0, m.orders.size() - 1), draw(random, 0, 3)};
            case "count":
                return new int[] {draw(random, 0, 11)};
            case "pass":
                return new int[] {random.nextInt(12) == 0 ? draw(random, 1, 40) : draw(random, 1, 3)};
            case "breaks":
                return new int[] {draw(random, 0, 5), draw(random, 1, 30)};
            case "ready":
                return new int[] {draw(random, 0, m.orders.size() - 1)};
            case "foresee":
                return new int[] {draw(random, 1, 40), draw(random, 0, 11)};
            default:
                return new int[0];
        }
    }

    private static String onPipeMoulds(PipeMoulds x, int call, int[] a) {
        switch (NAMES[call]) {
            case "mould": return "" + x.mould(a[0], a[1]);
            case "refit": return "" + x.refit(a[0]);
            case "maker": return "" + x.maker(a[0]);
            case "place": return "" + x.place(a[0], a[1]);
            case "buy": return "" + x.buy(a[0], a[1]);
            case "setDry": return "" + x.setDry(a[0], a[1]);
            case "pack": return "" + x.pack(a[0], a[1], a[2]);
            case "fire": return "" + x.fire(a[0]);
            case "order": return "" + x.order(a[0], a[1], a[2], a[3]);
            case "about": return "" + x.about(a[0], a[1]);
            case "told": return "" + x.told(a[0], a[1]);
            case "batch": return "" + x.batch(a[0], a[1]);
            case "saggar": return "" + x.saggar(a[0], a[1]);
            case "store": return "" + x.store(a[0]);
            case "waits": return "" + x.waits(a[0], a[1]);
            case "count": return "" + x.count(a[0]);
            case "pass": return "" + x.pass(a[0]);
            case "breaks": return "" + x.breaks(a[0], a[1]);
            case "advise": return "" + x.advise();
            case "ready": return "" + x.ready(a[0]);
            case "foresee": return "" + x.foresee(a[0], a[1]);
            case "mean": return "" + x.mean();
            default: return "" + x.digest();
        }
    }

    private static String onModel(Model m, int call, int[] a) {
        switch (NAMES[call]) {
            case "mould": return "" + m.mould(a[0], a[1]);
            case "refit": return "" + m.refit(a[0]);
            case "maker": return "" + m.maker(a[0]);
            case "place": return "" + m.place(a[0], a[1]);
            case "buy": return "" + m.buy(a[0], a[1]);
            case "setDry": return "" + m.setDry(a[0], a[1]);
            case "pack": return "" + m.pack(a[0], a[1], a[2]);
            case "fire": return "" + m.fire(a[0]);
            case "order": return "" + m.order(a[0], a[1], a[2], a[3]);
            case "about": return "" + m.about(a[0], a[1]);
            case "told": return "" + m.told(a[0], a[1]);
            case "batch": return "" + m.pipes(m.batches, a[0], a[1]);
            case "saggar": return "" + m.pipes(m.saggars, a[0], a[1]);
            case "store": return "" + m.store(a[0]);
            case "waits": return "" + m.waits(a[0], a[1]);
            case "count": return "" + m.count(a[0]);
            case "pass": return "" + m.pass(a[0]);
            case "breaks": return "" + m.breaks(a[0], a[1]);
            case "advise": return "" + m.advise();
            case "ready": return "" + m.ready(a[0]);
            case "foresee": return "" + m.foresee(a[0], a[1]);
            case "mean": return "" + m.mean();
            default: return "" + m.digest();
        }
    }

    private static final class Mould {
        int length;
        int tight;
        int worn;

        int flaw() {
            return worn / 10 + (9 - tight);
        }

        int clay() {
            return length % 8 == 0 ? length / 8 : length / 8 + 1;
        }
    }

    private static final class Maker {
        int skill;
        Mould at;
    }

    private static final class Pipes {
        int length;
        int many;
        int wet;
        int flaw;
    }

    private static final class Order {
        int length;
        int many;
        int days;
        int pays;
    }

    private static final class Model {
        final List<Mould> moulds = new ArrayList<>();
        final List<Maker> makers = new ArrayList<>();
        final List<Pipes> batches = new ArrayList<>();
        final List<Pipes> saggars = new ArrayList<>();
        final List<Order> orders = new ArrayList<>();
        final List<Order> servedOnes = new ArrayList<>();
        int[] dries = {1, 1, 1, 1, 1, 1, 1};
        int[] whole = new int[25];
        int day;
        int clay = 200;
        int coals = 20;
        int coins = 30;
        int made;
        int broke;
        int lost;

        Model() {
            for (int saggar = 0; saggar < 6; saggar++) {
                saggars.add(new Pipes());
            }
        }

        Model copy() {
            Model to = new Model();
            for (Mould mould : moulds) {
                Mould same = new Mould();
                same.length = mould.length;
                same.tight = mould.tight;
                same.worn = mould.worn;
                to.moulds.add(same);
            }
            for (Maker maker : makers) {
                Maker same = new Maker();
                same.skill = maker.skill;
                same.at = maker.at == null ? null : to.moulds.get(moulds.indexOf(maker.at));
                to.makers.add(same);
            }
            to.saggars.clear();
            copyPipes(batches, to.batches);
            copyPipes(saggars, to.saggars);
            for (Order order : orders) {
                Order same = new Order();
                same.length = order.length;
                same.many = order.many;
                same.days = order.days;
                same.pays = order.pays;
                to.orders.add(same);
            }
            to.servedOnes.addAll(servedOnes);
            to.dries = dries.clone();
            to.whole = whole.clone();
            to.day = day;
            to.clay = clay;
            to.coals = coals;
            to.coins = coins;
            to.made = made;
            to.broke = broke;
            to.lost = lost;
            return to;
        }

        private static void copyPipes(List<Pipes> from, List<Pipes> to) {
            for (Pipes pipes : from) {
                Pipes same = new Pipes();
                same.length = pipes.length;
                same.many = pipes.many;
                same.wet = pipes.wet;
                same.flaw = pipes.flaw;
                to.add(same);
            }
        }

        private static <T> T one(List<T> all, int number) {
            if (number < 0 || number >= all.size()) {
                throw new IndexOutOfBoundsException();
            }
            return all.get(number);
        }

        private static void within(int number, int least, int most) {
            if (number < least || number > most) {
                throw new IllegalArgumentException();
            }
        }

        private static void index(int number, int least, int most) {
            if (number < least || number > most) {
                throw new IndexOutOfBoundsException();
            }
        }

        private static void not(boolean hinders) {
            if (hinders) {
                throw new IllegalStateException();
            }
        }

        int mould(int length, int stopper) {
            within(length, 4, 24);
            within(stopper, 0, 9);
            not(moulds.size() == 6);
            Mould mould = new Mould();
            mould.length = length;
            mould.tight = stopper;
            moulds.add(mould);
            return moulds.indexOf(mould);
        }

        int refit(int number) {
            Mould mould = one(moulds, number);
            not(mould.tight == 9 || coins < 2);
            int before = mould.tight;
            mould.tight = 9;
            coins -= 2;
            return before;
        }

        int maker(int skill) {
            within(skill, 1, 9);
            not(makers.size() == 5);
            Maker maker = new Maker();
            maker.skill = skill;
            makers.add(maker);
            return makers.indexOf(maker);
        }

        int place(int maker, int mould) {
            Maker one = one(makers, maker);
            Mould at = mould == -1 ? null : one(moulds, mould);
            for (Maker other : makers) {
                not(other != one && at != null && other.at == at);
            }
            int before = moulds.indexOf(one.at);
            one.at = at;
            return before;
        }

        int buy(int what, int many) {
            index(what, 0, 1);
            within(many, 1, 200);
            int price = what == 1 ? many : (int) Math.ceil(many / 4.0);
            not(price > coins);
            coins -= price;
            return what == 0 ? (clay += many) : (coals += many);
        }

        int setDry(int of, int by) {
            index(of, 0, 6);
            within(by, 0, 3);
            int before = dries[of];
            dries[of] = by;
            return before;
        }

        int pack(int batch, int saggar, int many) {
            Pipes from = one(batches, batch);
            Pipes to = one(saggars, saggar);
            within(many, 1, 24);
            not(to.many > 0 || from.many < many);
            to.length = from.length;
            to.many = many;
            to.wet = from.wet;
            to.flaw = from.flaw;
            from.many -= many;
            if (from.many == 0) {
                batches.remove(from);
            }
            return from.many;
        }

        int fire(int with) {
            within(with, 1, 30);
            not(with > coals);
            not(pipesOf(saggars) == 0);
            int sum = 0;
            for (int saggar = 0; saggar < 6; saggar++) {
                Pipes pipes = saggars.get(saggar);
                int stems = breaks(saggar, with);
                broke += stems;
                whole[pipes.length] += pipes.many - stems;
                sum += pipes.many - stems;
                saggars.set(saggar, new Pipes());
            }
            coals -= with;
            return sum;
        }

        int order(int length, int many, int days, int pays) {
            within(length, 4, 24);
            within(many, 1, 99);
            within(days, 0, 30);
            within(pays, 1, 99);
            not(orders.size() == 8);
            Order order = new Order();
            order.length = length;
            order.many = many;
            order.days = days;
            order.pays = pays;
            orders.add(order);
            return orders.size();
        }

        int about(int mould, int what) {
            Mould of = one(moulds, mould);
            index(what, 0, 5);
            int maker = -1;
            for (Maker other : makers) {
                if (other.at == of) {
                    maker = makers.indexOf(other);
                }
            }
            return new int[] {of.length, of.tight, of.worn, of.flaw(), of.clay(), maker}[what];
        }

        int told(int maker, int what) {
            Maker of = one(makers, maker);
            index(what, 0, 1);
            return what == 0 ? of.skill : moulds.indexOf(of.at);
        }

        int pipes(List<Pipes> all, int number, int what) {
            Pipes of = one(all, number);
            index(what, 0, 3);
            return new int[] {of.length, of.many, of.wet, of.flaw}[what];
        }

        int store(int length) {
            index(length, 4, 24);
            return whole[length];
        }

        int waits(int place, int what) {
            Order of = one(orders, place);
            index(what, 0, 3);
            return new int[] {of.length, of.many, of.days, of.pays}[what];
        }

        private static int pipesOf(List<Pipes> all) {
            int sum = 0;
            for (Pipes pipes : all) {
                sum += pipes.many;
            }
            return sum;
        }

        int count(int what) {
            index(what, 0, 11);
            int stored = 0;
            for (int pipes : whole) {
                stored += pipes;
            }
            return new int[] {day, clay, coals, coins, made, broke, pipesOf(batches), pipesOf(saggars), stored,
                orders.size(), servedOnes.size(), lost}[what];
        }

        int pass(int days) {
            within(days, 1, 40);
            int before = made;
            for (int gone = 0; gone < days; gone++) {
                oneDay();
            }
            return made - before;
        }

        private void oneDay() {
            for (Maker maker : makers) {
                if (maker.at != null && batches.size() < 10) {
                    work(maker.skill, maker.at);
                }
            }
            List<Pipes> wet = new ArrayList<>(batches);
            wet.addAll(saggars);
            for (Pipes pipes : wet) {
                for (int less = 0; less < dries[day % 7] && pipes.wet > 0; less++) {
                    pipes.wet--;
                }
            }
            for (Order order : new ArrayList<>(orders)) {
                if (whole[order.length] >= order.many) {
                    whole[order.length] -= order.many;
                    coins += order.pays;
                    servedOnes.add(order);
                    orders.remove(order);
                } else if (--order.days < 0) {
                    lost++;
                    orders.remove(order);
                }
            }
            day++;
        }

        private void work(int skill, Mould mould) {
            Pipes batch = new Pipes();
            batch.length = mould.length;
            batch.flaw = mould.flaw();
            batch.wet = 6;
            while (batch.many < skill && clay >= mould.clay()) {
                clay -= mould.clay();
                batch.many++;
                made++;
            }
            if (batch.many == 0) {
                return;
            }
            batches.add(batch);
            int tenth = mould.worn / 10;
            for (int pipes = 0; pipes < batch.many; pipes += 4) {
                mould.worn = mould.worn == 100 ? 100 : mould.worn + 1;
            }
            if (mould.worn / 10 > tenth && mould.tight > 0) {
                mould.tight--;
            }
        }

        int breaks(int saggar, int with) {
            Pipes of = one(saggars, saggar);
            within(with, 1, 30);
            int heat = 4 * with;
            int best = 20 + 2 * of.length;
            int share = 8 * of.wet + 2 * of.flaw + (heat > best ? heat - best : best - heat) / 2;
            if (saggar == 0 || saggar == 5) {
                share += 5;
            }
            share = share > 100 ? 100 : share;
            int stems = of.many * share / 100;
            return of.many * share % 100 == 0 ? stems : stems + 1;
        }

        int advise() {
            int best = -1;
            int fewest = Integer.MAX_VALUE;
            for (int with = 30; with >= 1 && pipesOf(saggars) > 0; with--) {
                int stems = 0;
                for (int saggar = 0; saggar < 6; saggar++) {
                    stems += breaks(saggar, with);
                }
                if (stems <= fewest) {
                    fewest = stems;
                    best = with;
                }
            }
            return best;
        }

        int ready(int place) {
            one(orders, place);
            Model then = copy();
            Order asked = then.orders.get(place);
            for (int days = 1; then.orders.contains(asked); days++) {
                then.oneDay();
                if (then.servedOnes.contains(asked)) {
                    return days;
                }
            }
            return -1;
        }

        int foresee(int days, int what) {
            within(days, 1, 40);
            index(what, 0, 11);
            Model then = copy();
            then.pass(days);
            return then.count(what);
        }

        double mean() {
            int sum = 0;
            for (Pipes pipes : batches) {
                sum += pipes.flaw * pipes.many;
            }
            return sum == 0 ? 0.0 : (double) sum / pipesOf(batches);
        }

        long digest() {
            List<Integer> all = new ArrayList<>();
            for (int what = 0; what < 12; what++) {
                all.add(count(what));
            }
            for (int by : dries) {
                all.add(by);
            }
            for (int mould = 0; mould < moulds.size(); mould++) {
                for (int what = 0; what < 6; what++) {
                    all.add(about(mould, what));
                }
            }
            for (int maker = 0; maker < makers.size(); maker++) {
                all.add(told(maker, 0));
                all.add(told(maker, 1));
            }
            for (int batch = 0; batch < batches.size(); batch++) {
                for (int what = 0; what < 4; what++) {
                    all.add(pipes(batches, batch, what));
                }
            }
            for (int saggar = 0; saggar < 6; saggar++) {
                for (int what = 0; what < 4; what++) {
                    all.add(pipes(saggars, saggar, what));
                }
            }
            for (int length = 4; length <= 24; length++) {
                all.add(store(length));
            }
            for (int place = 0; place < orders.size(); place++) {
                for (int what = 0; what < 4; what++) {
                    all.add(waits(place, what));
                }
            }
            long d = 1423;
            for (int x : all) {
                d = d * 31 + x;
            }
            return d;
        }
    }
}
