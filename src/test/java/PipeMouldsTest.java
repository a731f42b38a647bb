import java.lang.reflect.Constructor;
import java.lang.reflect.Field;
import java.lang.reflect.Method;
import java.lang.reflect.Modifier;
import java.util.ArrayList;
import java.util.Arrays;
import java.util.List;
import java.util.TreeSet;

/** For each promise of the document: ordinary inputs, the edges that it names, and wrong inputs. */
public final class PipeMouldsTest extends Checks {
    public static void main(String[] args) {
        runAll(
                PipeMouldsTest::face,
                PipeMouldsTest::faceDeclaresItsExceptions,
                PipeMouldsTest::classesInside,
                PipeMouldsTest::readmeExample,
                PipeMouldsTest::promise01NewObject,
                PipeMouldsTest::promise02Mould,
                PipeMouldsTest::promise03Refit,
                PipeMouldsTest::promise04Maker,
                PipeMouldsTest::promise05Place,
                PipeMouldsTest::promise06Buy,
                PipeMouldsTest::promise07SetDry,
                PipeMouldsTest::promise08Pack,
                PipeMouldsTest::promise09Fire,
                PipeMouldsTest::promise10Order,
                PipeMouldsTest::promise11About,
                PipeMouldsTest::promise12Told,
                PipeMouldsTest::promise13Batch,
                PipeMouldsTest::promise14Saggar,
                PipeMouldsTest::promise15Store,
                PipeMouldsTest::promise16Waits,
                PipeMouldsTest::promise17Count,
                PipeMouldsTest::promise18PassMakers,
                PipeMouldsTest::promise18PassWear,
                PipeMouldsTest::promise18PassWeather,
                PipeMouldsTest::promise18PassOrders,
                PipeMouldsTest::promise19Breaks,
                PipeMouldsTest::promise20Advise,
                PipeMouldsTest::promise21Ready,
                PipeMouldsTest::promise22Foresee,
                PipeMouldsTest::promise23Mean,
                PipeMouldsTest::promise24Digest);
    }

    // ---- the promises

    private static void face() {
        part = "the public face";
        TreeSet<String> want = new TreeSet<>(Arrays.asList(
                "int mould(int,int)", "int refit(int)", "int maker(int)", "int place(int,int)",
                "int buy(int,int)", "int setDry(int,int)", "int pack(int,int,int)", "int fire(int)",
                "int order(int,int,int,int)", "int about(int,int)", "int told(int,int)",
                "int batch(int,int)", "int saggar(int,int)", "int store(int)", "int waits(int,int)",
                "int count(int)", "int pass(int)", "int breaks(int,int)", "int advise()",
                "int ready(int)", "int foresee(int,int)", "double mean()", "long digest()"));
        TreeSet<String> got = new TreeSet<>();
        TreeSet<String> names = new TreeSet<>();
        for (String face : want) {
            names.add(face.substring(face.indexOf(' ') + 1, face.indexOf('(')));
        }
        for (Method method : PipeMoulds.class.getDeclaredMethods()) {
            if (Modifier.isPrivate(method.getModifiers())) {
                due("a private method named " + method.getName(), 0, () -> names.contains(method.getName()) ? 1 : 0);
                continue;
            }
            due("public " + method, 1, () -> Modifier.isPublic(method.getModifiers()) ? 1 : 0);
            String types = "";
            for (Class<?> type : method.getParameterTypes()) {
                types += (types.isEmpty() ? "" : ",") + type.getName();
            }
            got.add(method.getReturnType() + " " + method.getName() + "(" + types + ")");
        }
        checks++;
        if (!got.equals(want)) {
            tell("the methods", got.toString(), want.toString());
        }
        for (Field field : PipeMoulds.class.getDeclaredFields()) {
            due("private " + field, 1, () -> Modifier.isPrivate(field.getModifiers()) ? 1 : 0);
        }
        due("constructors", 1, () -> PipeMoulds.class.getDeclaredConstructors().length);
        for (Constructor<?> constructor : PipeMoulds.class.getDeclaredConstructors()) {
            due("public " + constructor, 1, () -> Modifier.isPublic(constructor.getModifiers()) ? 1 : 0);
            due("parameters of " + constructor, 0, () -> constructor.getParameterCount());
        }
        due("a final class", 1, () -> Modifier.isFinal(PipeMoulds.class.getModifiers()) ? 1 : 0);
    }

    private static void faceDeclaresItsExceptions() {
        part = "the public face, what each method throws";
        String[] want = {"mould: ARGUMENT STATE", "refit: INDEX STATE", "maker: ARGUMENT STATE", "place: INDEX STATE",
            "buy: INDEX ARGUMENT STATE", "setDry: INDEX ARGUMENT", "pack: INDEX ARGUMENT STATE",
            "fire: ARGUMENT STATE", "order: ARGUMENT STATE", "about: INDEX", "told: INDEX", "batch: INDEX",
            "saggar: INDEX", "store: INDEX", "waits: INDEX", "count: INDEX", "pass: ARGUMENT",
            "breaks: INDEX ARGUMENT", "advise:", "ready: INDEX", "foresee: ARGUMENT INDEX", "mean:", "digest:"};
        TreeSet<String> got = new TreeSet<>();
        for (Method method : PipeMoulds.class.getMethods()) {
            if (method.getDeclaringClass() != PipeMoulds.class) {
                continue;
            }
            StringBuilder told = new StringBuilder(method.getName()).append(':');
            for (Class<?> thrown : method.getExceptionTypes()) {
                told.append(thrown == INDEX ? " INDEX" : thrown == ARGUMENT ? " ARGUMENT"
                        : thrown == STATE ? " STATE" : " " + thrown.getName());
            }
            got.add(told.toString());
        }
        checks++;
        if (!got.equals(new TreeSet<>(Arrays.asList(want)))) {
            tell("the throws clauses", got.toString(), Arrays.toString(want));
        }
    }

    private static void classesInside() {
        part = "LANGUAGE.md, rules 1, 2, 5 and 11: the classes inside, their static fields and parameters";
        List<Class<?>> all = new ArrayList<>(Arrays.asList(PipeMoulds.class.getDeclaredClasses()));
        for (Class<?> inside : all) {
            int signs = inside.getModifiers();
            due("static " + inside, 1, () -> Modifier.isStatic(signs) ? 1 : 0);
            due("neither public nor protected " + inside, 0,
                    () -> Modifier.isPublic(signs) || Modifier.isProtected(signs) ? 1 : 0);
        }
        due("no more than 12 classes", 1, () -> all.size() < 12 ? 1 : 0);
        all.add(PipeMoulds.class);
        for (Class<?> each : all) {
            int fields = 0;
            for (Field field : each.getDeclaredFields()) {
                int signs = field.getModifiers();
                due("final, if static: " + field, 1, () -> !Modifier.isStatic(signs) || Modifier.isFinal(signs) ? 1 : 0);
                fields += Modifier.isStatic(signs) ? 0 : 1;
            }
            int kept = fields;
            due("no more than 20 fields in " + each, 1, () -> kept <= 20 ? 1 : 0);
            for (Method method : each.getDeclaredMethods()) {
                due("no more than 7 parameters of " + method, 1, () -> method.getParameterCount() <= 7 ? 1 : 0);
            }
        }
    }

    private static void readmeExample() {
        part = "README.md, the example";
        PipeMoulds works = new PipeMoulds();
        int mould = works.mould(8, 9);
        int maker = works.maker(5);
        works.place(maker, mould);
        due("order(8, 5, 10, 12)", 1, () -> works.order(8, 5, 10, 12));
        due("pass(6)", 30, () -> works.pass(6));
        due("pack(0, 1, 5)", 0, () -> works.pack(0, 1, 5));
        due("fire(advise())", 5, () -> works.fire(works.advise()));
        due("ready(0)", 1, () -> works.ready(0));
        due("pass(1)", 5, () -> works.pass(1));
        due("coins", 42, () -> works.count(3));
    }

    private static void promise01NewObject() {
        part = "promise 1";
        PipeMoulds x = new PipeMoulds();
        row("count", new int[] {0, 200, 20, 30, 0, 0, 0, 0, 0, 0, 0, 0}, x::count);
        for (int length = 4; length <= 24; length++) {
            int of = length;
            due("store(" + of + ")", 0, () -> x.store(of));
        }
        for (int saggar = 0; saggar < 6; saggar++) {
            int of = saggar;
            row("saggar " + of, new int[4], what -> x.saggar(of, what));
        }
        fails("about(0, 0)", INDEX, x, () -> x.about(0, 0));
        fails("told(0, 0)", INDEX, x, () -> x.told(0, 0));
        fails("batch(0, 0)", INDEX, x, () -> x.batch(0, 0));
        fails("waits(0, 0)", INDEX, x, () -> x.waits(0, 0));
        for (int day = 0; day < 7; day++) {
            int of = day;
            due("setDry(" + of + ", 1)", 1, () -> x.setDry(of, 1));
        }
        due("advise()", -1, () -> x.advise());
        dueDouble("mean()", 0.0, () -> x.mean());
        PipeMoulds other = works(9, 8, 9);
        other.pass(40);
        due("another object's digest", new PipeMoulds().digest(), () -> x.digest());
    }

    private static void promise02Mould() {
        part = "promise 2";
        PipeMoulds x = new PipeMoulds();
        for (int bad : new int[] {3, 25, 0, -4}) {
            fails("mould(" + bad + ", 5)", ARGUMENT, x, () -> x.mould(bad, 5));
        }
        for (int bad : new int[] {-1, 10}) {
            fails("mould(8, " + bad + ")", ARGUMENT, x, () -> x.mould(8, bad));
        }
        for (int far : FAR) {
            fails("mould(" + far + ", 5)", ARGUMENT, x, () -> x.mould(far, 5));
            fails("mould(8, " + far + ")", ARGUMENT, x, () -> x.mould(8, far));
        }
        due("mould(4, 0)", 0, () -> x.mould(4, 0));
        due("mould(24, 9)", 1, () -> x.mould(24, 9));
        due("mould(4, 9)", 2, () -> x.mould(4, 9));
        due("mould(24, 0)", 3, () -> x.mould(24, 0));
        due("mould(8, 5), with the same again", 4, () -> x.mould(8, 5));
        due("mould(8, 5)", 5, () -> x.mould(8, 5));
        fails("mould(8, 5), the 7th", STATE, x, () -> x.mould(8, 5));
        fails("mould(3, 5), the 7th", ARGUMENT, x, () -> x.mould(3, 5));
        fails("mould(8, 10), the 7th", ARGUMENT, x, () -> x.mould(8, 10));
        row("about 3", new int[] {24, 0, 0, 9, 3, -1}, what -> x.about(3, what));
        row("about 1", new int[] {24, 9, 0, 0, 3, -1}, what -> x.about(1, what));
        due("coins", 30, () -> x.count(3));
    }

    private static void promise03Refit() {
        part = "promise 3";
        PipeMoulds x = new PipeMoulds();
        fails("refit(0) without moulds", INDEX, x, () -> x.refit(0));
        x.mould(8, 3);
        x.mould(9, 9);
        x.mould(10, 8);
        fails("refit(-1)", INDEX, x, () -> x.refit(-1));
        fails("refit(3)", INDEX, x, () -> x.refit(3));
        for (int far : FAR) {
            fails("refit(" + far + ")", INDEX, x, () -> x.refit(far));
        }
        due("refit(0)", 3, () -> x.refit(0));
        due("its stopper", 9, () -> x.about(0, 1));
        due("coins", 28, () -> x.count(3));
        fails("refit(0) again", STATE, x, () -> x.refit(0));
        fails("refit(1), that is tight by 9", STATE, x, () -> x.refit(1));
        x.buy(1, 26);
        due("refit(2) for the last 2 coins", 8, () -> x.refit(2));
        due("no coins", 0, () -> x.count(3));
        x.mould(8, 0);
        fails("refit(3) without coins", STATE, x, () -> x.refit(3));
        PipeMoulds y = new PipeMoulds();
        y.mould(8, 0);
        y.buy(1, 29);
        fails("refit(0) with 1 coin", STATE, y, () -> y.refit(0));
        fails("refit(1) with 1 coin", INDEX, y, () -> y.refit(1));
        PipeMoulds z = works(9, 8, 9);
        z.pass(4);
        due("worn", 12, () -> z.about(0, 2));
        due("refit of a worn one", 8, () -> z.refit(0));
        row("about, then", new int[] {8, 9, 12, 1, 1, 0}, what -> z.about(0, what));
    }

    private static void promise04Maker() {
        part = "promise 4";
        PipeMoulds x = new PipeMoulds();
        for (int bad : new int[] {0, 10, -1}) {
            fails("maker(" + bad + ")", ARGUMENT, x, () -> x.maker(bad));
        }
        for (int far : FAR) {
            fails("maker(" + far + ")", ARGUMENT, x, () -> x.maker(far));
        }
        due("maker(1)", 0, () -> x.maker(1));
        due("maker(9)", 1, () -> x.maker(9));
        due("maker(5)", 2, () -> x.maker(5));
        due("maker(5) again", 3, () -> x.maker(5));
        due("maker(2)", 4, () -> x.maker(2));
        fails("maker(5), the 6th", STATE, x, () -> x.maker(5));
        fails("maker(10), the 6th", ARGUMENT, x, () -> x.maker(10));
        due("skill of 1", 9, () -> x.told(1, 0));
        due("mould of 1", -1, () -> x.told(1, 1));
    }

    private static void promise05Place() {
        part = "promise 5";
        PipeMoulds x = new PipeMoulds();
        x.maker(3);
        fails("place(0, 0) without moulds", INDEX, x, () -> x.place(0, 0));
        due("place(0, -1) at none", -1, () -> x.place(0, -1));
        x.maker(4);
        x.mould(8, 9);
        x.mould(8, 9);
        fails("place(-1, 0)", INDEX, x, () -> x.place(-1, 0));
        fails("place(2, 0)", INDEX, x, () -> x.place(2, 0));
        fails("place(0, -2)", INDEX, x, () -> x.place(0, -2));
        fails("place(0, 2)", INDEX, x, () -> x.place(0, 2));
        for (int far : FAR) {
            fails("place(" + far + ", 0)", INDEX, x, () -> x.place(far, 0));
            fails("place(0, " + far + ")", INDEX, x, () -> x.place(0, far));
        }
        due("place(0, 0)", -1, () -> x.place(0, 0));
        due("place(0, 0), where it is", 0, () -> x.place(0, 0));
        fails("place(1, 0), where another is", STATE, x, () -> x.place(1, 0));
        fails("place(2, 0), no such maker", INDEX, x, () -> x.place(2, 0));
        due("place(1, 1)", -1, () -> x.place(1, 1));
        fails("place(0, 1), where another is", STATE, x, () -> x.place(0, 1));
        due("place(0, -1)", 0, () -> x.place(0, -1));
        due("place(1, -1), both at none", 1, () -> x.place(1, -1));
        due("place(1, 0), that is free", -1, () -> x.place(1, 0));
        due("place(1, 1)", 0, () -> x.place(1, 1));
        due("nobody at mould 0", -1, () -> x.about(0, 5));
        due("maker at mould 1", 1, () -> x.about(1, 5));
    }

    private static void promise06Buy() {
        part = "promise 6";
        PipeMoulds x = new PipeMoulds();
        fails("buy(-1, 1)", INDEX, x, () -> x.buy(-1, 1));
        fails("buy(2, 1)", INDEX, x, () -> x.buy(2, 1));
        fails("buy(2, 0)", INDEX, x, () -> x.buy(2, 0));
        fails("buy(0, 0)", ARGUMENT, x, () -> x.buy(0, 0));
        fails("buy(1, 201)", ARGUMENT, x, () -> x.buy(1, 201));
        for (int far : FAR) {
            fails("buy(" + far + ", 1)", INDEX, x, () -> x.buy(far, 1));
            fails("buy(0, " + far + ")", ARGUMENT, x, () -> x.buy(0, far));
        }
        fails("buy(0, 121) for 31", STATE, x, () -> x.buy(0, 121));
        fails("buy(0, 200) for 50", STATE, x, () -> x.buy(0, 200));
        fails("buy(1, 31)", STATE, x, () -> x.buy(1, 31));
        due("buy(0, 1)", 201, () -> x.buy(0, 1));
        due("coins", 29, () -> x.count(3));
        due("buy(0, 4)", 205, () -> x.buy(0, 4));
        due("coins", 28, () -> x.count(3));
        due("buy(0, 5)", 210, () -> x.buy(0, 5));
        due("coins", 26, () -> x.count(3));
        due("buy(1, 5)", 25, () -> x.buy(1, 5));
        due("coins", 21, () -> x.count(3));
        due("buy(0, 84), for all coins", 294, () -> x.buy(0, 84));
        due("coins", 0, () -> x.count(3));
        due("clay", 294, () -> x.count(1));
        due("coals", 25, () -> x.count(2));
        fails("buy(0, 1) without coins", STATE, x, () -> x.buy(0, 1));
        fails("buy(0, 201) without coins", ARGUMENT, x, () -> x.buy(0, 201));
        PipeMoulds y = new PipeMoulds();
        due("buy(0, 120) for 30", 320, () -> y.buy(0, 120));
        PipeMoulds z = new PipeMoulds();
        due("buy(1, 30) for 30", 50, () -> z.buy(1, 30));
    }

    private static void promise07SetDry() {
        part = "promise 7";
        PipeMoulds x = new PipeMoulds();
        fails("setDry(-1, 1)", INDEX, x, () -> x.setDry(-1, 1));
        fails("setDry(7, 1)", INDEX, x, () -> x.setDry(7, 1));
        fails("setDry(7, 4)", INDEX, x, () -> x.setDry(7, 4));
        fails("setDry(0, -1)", ARGUMENT, x, () -> x.setDry(0, -1));
        fails("setDry(0, 4)", ARGUMENT, x, () -> x.setDry(0, 4));
        for (int far : FAR) {
            fails("setDry(" + far + ", 1)", INDEX, x, () -> x.setDry(far, 1));
            fails("setDry(0, " + far + ")", ARGUMENT, x, () -> x.setDry(0, far));
        }
        due("setDry(0, 3)", 1, () -> x.setDry(0, 3));
        due("setDry(0, 0)", 3, () -> x.setDry(0, 0));
        due("setDry(0, 2)", 0, () -> x.setDry(0, 2));
        due("setDry(6, 3)", 1, () -> x.setDry(6, 3));
        due("setDry(1, 1), untouched", 1, () -> x.setDry(1, 1));
        due("setDry(0, 2), the same", 2, () -> x.setDry(0, 2));
    }

    private static void promise08Pack() {
        part = "promise 8";
        PipeMoulds x = works(9, 9, 7);
        fails("pack(0, 0, 1) without batches", INDEX, x, () -> x.pack(0, 0, 1));
        x.pass(3);
        fails("pack(-1, 0, 1)", INDEX, x, () -> x.pack(-1, 0, 1));
        fails("pack(3, 0, 1)", INDEX, x, () -> x.pack(3, 0, 1));
        fails("pack(0, -1, 1)", INDEX, x, () -> x.pack(0, -1, 1));
        fails("pack(0, 6, 1)", INDEX, x, () -> x.pack(0, 6, 1));
        fails("pack(0, 6, 0)", INDEX, x, () -> x.pack(0, 6, 0));
        fails("pack(0, 0, 0)", ARGUMENT, x, () -> x.pack(0, 0, 0));
        fails("pack(0, 0, 25)", ARGUMENT, x, () -> x.pack(0, 0, 25));
        fails("pack(0, 0, 24), more than there are", STATE, x, () -> x.pack(0, 0, 24));
        fails("pack(0, 0, 10), more than there are", STATE, x, () -> x.pack(0, 0, 10));
        for (int far : FAR) {
            fails("pack(" + far + ", 0, 1)", INDEX, x, () -> x.pack(far, 0, 1));
            fails("pack(0, " + far + ", 1)", INDEX, x, () -> x.pack(0, far, 1));
            fails("pack(0, 0, " + far + ")", ARGUMENT, x, () -> x.pack(0, 0, far));
        }
        due("pack(1, 3, 4)", 5, () -> x.pack(1, 3, 4));
        row("saggar 3", new int[] {9, 4, 4, 2}, what -> x.saggar(3, what));
        row("batch 1", new int[] {9, 5, 4, 2}, what -> x.batch(1, what));
        fails("pack(1, 3, 1), that is not empty", STATE, x, () -> x.pack(1, 3, 1));
        fails("pack(1, 3, 25), that is not empty", ARGUMENT, x, () -> x.pack(1, 3, 25));
        fails("pack(1, 0, 6), of 5", STATE, x, () -> x.pack(1, 0, 6));
        due("pack(0, 0, 9), all", 0, () -> x.pack(0, 0, 9));
        row("batch 0, then", new int[] {9, 5, 4, 2}, what -> x.batch(0, what));
        row("batch 1, then", new int[] {9, 9, 5, 2}, what -> x.batch(1, what));
        fails("batch(2, 0), then", INDEX, x, () -> x.batch(2, 0));
        row("saggar 0", new int[] {9, 9, 3, 2}, what -> x.saggar(0, what));
        due("pack(0, 5, 1)", 4, () -> x.pack(0, 5, 1));
        due("pack(0, 4, 4)", 0, () -> x.pack(0, 4, 4));
        due("pack(0, 2, 9), the last", 0, () -> x.pack(0, 2, 9));
        due("pipes on boards", 0, () -> x.count(6));
        due("pipes in saggars", 27, () -> x.count(7));
        fails("pack(0, 1, 1) without batches", INDEX, x, () -> x.pack(0, 1, 1));
    }

    private static void promise09Fire() {
        part = "promise 9";
        PipeMoulds x = works(9, 10, 9);
        fails("fire(1), all empty", STATE, x, () -> x.fire(1));
        x.pass(2);
        fails("fire(0)", ARGUMENT, x, () -> x.fire(0));
        fails("fire(31)", ARGUMENT, x, () -> x.fire(31));
        fails("fire(21), of 20", STATE, x, () -> x.fire(21));
        x.pack(0, 0, 7);
        x.pack(1, 1, 9);
        for (int far : FAR) {
            fails("fire(" + far + ")", ARGUMENT, x, () -> x.fire(far));
        }
        fails("fire(31), with saggars", ARGUMENT, x, () -> x.fire(31));
        fails("fire(21), with saggars", STATE, x, () -> x.fire(21));
        // In saggar 0: wet 4, so 32 + 5 of a hundred of 7, 2.59; in saggar 1: wet 5, 40 of 9, 3.6.
        due("fire(10)", 9, () -> x.fire(10));
        due("store(10)", 9, () -> x.store(10));
        row("count", new int[] {2, 164, 10, 30, 18, 7, 2, 0, 9, 0, 0, 0}, x::count);
        row("saggar 0", new int[4], what -> x.saggar(0, what));
        row("saggar 1", new int[4], what -> x.saggar(1, what));
        fails("fire(1), all empty again", STATE, x, () -> x.fire(1));
        x.pack(0, 1, 2);
        due("fire(10), the last coals, into the same", 1, () -> x.fire(10));
        due("store(10), then", 10, () -> x.store(10));
        due("no coals", 0, () -> x.count(2));

        PipeMoulds y = works(1, 4, 0);
        y.mould(24, 9);
        y.maker(1);
        y.place(1, 1);
        noDrying(y);
        y.buy(1, 10);
        y.pass(2);
        y.pack(0, 0, 1);
        y.pack(0, 2, 1);
        fails("fire(30), of 30, and no saggar of 31", ARGUMENT, y, () -> y.fire(31));
        // Saggar 0: 48 + 18 + 46 + 5, at most 100: one breaks; saggar 2: 48 + 26: one breaks.
        due("fire(30), all broken", 0, () -> y.fire(30));
        due("stems", 2, () -> y.count(5));
        due("coals, burnt whatever breaks", 0, () -> y.count(2));
        due("store(4)", 0, () -> y.store(4));
        fails("fire(1) without coals", STATE, y, () -> y.fire(1));

        due("flawless and dry ones", 9, () -> withWhole(9).store(8));
    }

    private static void promise10Order() {
        part = "promise 10";
        PipeMoulds x = new PipeMoulds();
        int[][] bad = {{3, 1, 1, 1}, {25, 1, 1, 1}, {8, 0, 1, 1}, {8, 100, 1, 1},
            {8, 1, -1, 1}, {8, 1, 31, 1}, {8, 1, 1, 0}, {8, 1, 1, 100}};
        for (int[] of : bad) {
            fails("order" + Arrays.toString(of), ARGUMENT, x, () -> x.order(of[0], of[1], of[2], of[3]));
        }
        for (int far : FAR) {
            fails("order(" + far + ", ..)", ARGUMENT, x, () -> x.order(far, 1, 1, 1));
            fails("order(8, " + far + ", ..)", ARGUMENT, x, () -> x.order(8, far, 1, 1));
            fails("order(8, 1, " + far + ", ..)", ARGUMENT, x, () -> x.order(8, 1, far, 1));
            fails("order(8, 1, 1, " + far + ")", ARGUMENT, x, () -> x.order(8, 1, 1, far));
        }
        due("order(4, 1, 0, 1)", 1, () -> x.order(4, 1, 0, 1));
        due("order(24, 99, 30, 99)", 2, () -> x.order(24, 99, 30, 99));
        row("waits 0", new int[] {4, 1, 0, 1}, what -> x.waits(0, what));
        row("waits 1", new int[] {24, 99, 30, 99}, what -> x.waits(1, what));
        for (int more = 3; more <= 8; more++) {
            int then = more;
            due("order(8, 2, 3, 4)", then, () -> x.order(8, 2, 3, 4));
        }
        fails("order(8, 2, 3, 4), the 9th", STATE, x, () -> x.order(8, 2, 3, 4));
        fails("order(3, 2, 3, 4), the 9th", ARGUMENT, x, () -> x.order(3, 2, 3, 4));
        fails("order(8, 2, 3, 100), the 9th", ARGUMENT, x, () -> x.order(8, 2, 3, 100));
        x.pass(1);
        due("order(8, 2, 3, 4), when one is lost", 8, () -> x.order(8, 2, 3, 4));
        PipeMoulds y = withWhole(9);
        y.order(8, 9, 5, 7);
        due("no coins come ahead of the day", 30, () -> y.count(3));
        due("no pipes go ahead of the day", 9, () -> y.store(8));
    }

    private static void promise11About() {
        part = "promise 11";
        PipeMoulds x = new PipeMoulds();
        int[][] clay = {{4, 1}, {8, 1}, {9, 2}, {16, 2}, {17, 3}, {24, 3}};
        for (int[] of : clay) {
            x.mould(of[0], 4);
        }
        for (int mould = 0; mould < 6; mould++) {
            int[] want = {clay[mould][0], 4, 0, 5, clay[mould][1], -1};
            int of = mould;
            row("about " + of, want, what -> x.about(of, what));
        }
        x.maker(2);
        x.maker(2);
        x.place(1, 4);
        due("about(4, 5)", 1, () -> x.about(4, 5));
        due("about(0, 5)", -1, () -> x.about(0, 5));
        PipeMoulds y = works(9, 8, 9);
        y.pass(3);
        row("about, worn by 9", new int[] {8, 9, 9, 0, 1, 0}, what -> y.about(0, what));
        y.pass(1);
        row("about, worn by 12", new int[] {8, 8, 12, 2, 1, 0}, what -> y.about(0, what));
        fails("about(-1, 0)", INDEX, y, () -> y.about(-1, 0));
        fails("about(1, 0)", INDEX, y, () -> y.about(1, 0));
        fails("about(0, -1)", INDEX, y, () -> y.about(0, -1));
        fails("about(0, 6)", INDEX, y, () -> y.about(0, 6));
        for (int far : FAR) {
            fails("about(" + far + ", 0)", INDEX, y, () -> y.about(far, 0));
            fails("about(0, " + far + ")", INDEX, y, () -> y.about(0, far));
        }
    }

    private static void promise12Told() {
        part = "promise 12";
        PipeMoulds x = new PipeMoulds();
        x.mould(8, 9);
        x.mould(9, 9);
        x.maker(7);
        x.maker(3);
        x.place(0, 1);
        row("told 0", new int[] {7, 1}, what -> x.told(0, what));
        row("told 1", new int[] {3, -1}, what -> x.told(1, what));
        x.place(0, -1);
        row("told 0, then", new int[] {7, -1}, what -> x.told(0, what));
        fails("told(-1, 0)", INDEX, x, () -> x.told(-1, 0));
        fails("told(2, 0)", INDEX, x, () -> x.told(2, 0));
        fails("told(0, -1)", INDEX, x, () -> x.told(0, -1));
        fails("told(0, 2)", INDEX, x, () -> x.told(0, 2));
        for (int far : FAR) {
            fails("told(" + far + ", 0)", INDEX, x, () -> x.told(far, 0));
            fails("told(0, " + far + ")", INDEX, x, () -> x.told(0, far));
        }
    }

    private static void promise13Batch() {
        part = "promise 13";
        PipeMoulds x = works(5, 20, 6);
        x.setDry(1, 2);
        x.pass(2);
        row("batch 0", new int[] {20, 5, 3, 3}, what -> x.batch(0, what));
        row("batch 1", new int[] {20, 5, 4, 3}, what -> x.batch(1, what));
        fails("batch(-1, 0)", INDEX, x, () -> x.batch(-1, 0));
        fails("batch(2, 0)", INDEX, x, () -> x.batch(2, 0));
        fails("batch(0, -1)", INDEX, x, () -> x.batch(0, -1));
        fails("batch(0, 4)", INDEX, x, () -> x.batch(0, 4));
        for (int far : FAR) {
            fails("batch(" + far + ", 0)", INDEX, x, () -> x.batch(far, 0));
            fails("batch(0, " + far + ")", INDEX, x, () -> x.batch(0, far));
        }
    }

    private static void promise14Saggar() {
        part = "promise 14";
        PipeMoulds x = works(5, 20, 6);
        x.pass(1);
        x.pack(0, 5, 3);
        row("saggar 5", new int[] {20, 3, 5, 3}, what -> x.saggar(5, what));
        row("saggar 4, empty", new int[4], what -> x.saggar(4, what));
        x.pass(1);
        row("saggar 5, a day on", new int[] {20, 3, 4, 3}, what -> x.saggar(5, what));
        x.fire(5);
        row("saggar 5, fired", new int[4], what -> x.saggar(5, what));
        fails("saggar(-1, 0)", INDEX, x, () -> x.saggar(-1, 0));
        fails("saggar(6, 0)", INDEX, x, () -> x.saggar(6, 0));
        fails("saggar(0, -1)", INDEX, x, () -> x.saggar(0, -1));
        fails("saggar(0, 4)", INDEX, x, () -> x.saggar(0, 4));
        for (int far : FAR) {
            fails("saggar(" + far + ", 0)", INDEX, x, () -> x.saggar(far, 0));
            fails("saggar(0, " + far + ")", INDEX, x, () -> x.saggar(0, far));
        }
    }

    private static void promise15Store() {
        part = "promise 15";
        PipeMoulds x = works(6, 4, 9);
        x.mould(24, 9);
        x.maker(3);
        x.place(1, 1);
        x.pass(1);
        x.place(0, -1);
        x.place(1, -1);
        x.pass(5);
        x.pack(0, 1, 6);
        x.pack(0, 2, 3);
        // 4 * 12 fits 14 best: length 4 differs by 20, so 10 of a hundred of 6; 24 by 20, of 3.
        due("fire(12)", 7, () -> x.fire(12));
        due("store(4)", 5, () -> x.store(4));
        due("store(24)", 2, () -> x.store(24));
        due("all of the store", 7, () -> x.count(8));
        due("store(5)", 0, () -> x.store(5));
        due("store(23)", 0, () -> x.store(23));
        fails("store(3)", INDEX, x, () -> x.store(3));
        fails("store(25)", INDEX, x, () -> x.store(25));
        fails("store(0)", INDEX, x, () -> x.store(0));
        for (int far : FAR) {
            fails("store(" + far + ")", INDEX, x, () -> x.store(far));
        }
    }

    private static void promise16Waits() {
        part = "promise 16";
        PipeMoulds x = new PipeMoulds();
        x.order(5, 6, 7, 8);
        x.order(9, 10, 0, 12);
        x.order(13, 14, 15, 16);
        row("waits 0", new int[] {5, 6, 7, 8}, what -> x.waits(0, what));
        row("waits 1", new int[] {9, 10, 0, 12}, what -> x.waits(1, what));
        row("waits 2", new int[] {13, 14, 15, 16}, what -> x.waits(2, what));
        x.pass(1);
        row("waits 0, a day on", new int[] {5, 6, 6, 8}, what -> x.waits(0, what));
        row("waits 1, a day on", new int[] {13, 14, 14, 16}, what -> x.waits(1, what));
        fails("waits(-1, 0)", INDEX, x, () -> x.waits(-1, 0));
        fails("waits(2, 0)", INDEX, x, () -> x.waits(2, 0));
        fails("waits(0, -1)", INDEX, x, () -> x.waits(0, -1));
        fails("waits(0, 4)", INDEX, x, () -> x.waits(0, 4));
        for (int far : FAR) {
            fails("waits(" + far + ", 0)", INDEX, x, () -> x.waits(far, 0));
            fails("waits(0, " + far + ")", INDEX, x, () -> x.waits(0, far));
        }
    }

    private static void promise17Count() {
        part = "promise 17";
        PipeMoulds x = withWhole(9);
        x.order(8, 4, 3, 5);
        x.order(8, 6, 0, 5);
        x.order(9, 1, 9, 5);
        x.place(0, 0);
        x.pass(1);
        x.pack(0, 0, 2);
        x.buy(1, 1);
        x.pass(1);
        // Made 9 * 3; of the first batch 9 whole; an order served, one lost, one waits.
        row("count", new int[] {8, 173, 12, 34, 27, 0, 16, 2, 5, 1, 1, 1}, x::count);
        x.fire(1);
        due("stems in saggar 0: 32 + 16 + 5 of 2", 2, () -> x.count(5));
        fails("count(-1)", INDEX, x, () -> x.count(-1));
        fails("count(12)", INDEX, x, () -> x.count(12));
        for (int far : FAR) {
            fails("count(" + far + ")", INDEX, x, () -> x.count(far));
        }
    }

    private static void promise18PassMakers() {
        part = "promise 18, makers";
        PipeMoulds x = new PipeMoulds();
        fails("pass(0)", ARGUMENT, x, () -> x.pass(0));
        fails("pass(41)", ARGUMENT, x, () -> x.pass(41));
        fails("pass(-1)", ARGUMENT, x, () -> x.pass(-1));
        for (int far : FAR) {
            fails("pass(" + far + ")", ARGUMENT, x, () -> x.pass(far));
        }
        due("pass(40) without makers", 0, () -> x.pass(40));
        due("the day", 40, () -> x.count(0));

        PipeMoulds y = new PipeMoulds();
        y.mould(8, 9);
        y.mould(24, 5);
        y.maker(2);
        y.maker(3);
        y.maker(9);
        y.place(0, 1);
        y.place(1, 0);
        due("pass(1)", 5, () -> y.pass(1));
        row("batch 0, of maker 0", new int[] {24, 2, 5, 4}, what -> y.batch(0, what));
        row("batch 1, of maker 1", new int[] {8, 3, 5, 0}, what -> y.batch(1, what));
        due("clay", 200 - 6 - 3, () -> y.count(1));
        due("pass(5): 10 batches then", 4 * 5, () -> y.pass(5));
        due("pass(1) with 10 batches", 0, () -> y.pass(1));
        due("clay, then", 200 - 9 * 5, () -> y.count(1));
        y.pack(3, 0, 3);
        due("pass(1) with 9 batches: maker 0 alone", 2, () -> y.pass(1));
        row("batch 9", new int[] {24, 2, 5, 4}, what -> y.batch(9, what));
        fails("batch(10, 0)", INDEX, y, () -> y.batch(10, 0));

        PipeMoulds z = works(9, 24, 9);
        z.mould(16, 9);
        z.maker(9);
        z.place(1, 1);
        z.pass(4);
        due("clay for 4 days of 27 + 18", 20, () -> z.count(1));
        due("pass(1): 6 of 3 pounds, and 1 of 2", 7, () -> z.pass(1));
        due("batches", 7, () -> z.batch(8, 1) + z.batch(9, 1));
        due("batch 8", 6, () -> z.batch(8, 1));
        due("clay", 0, () -> z.count(1));

        PipeMoulds v = works(9, 24, 9);
        v.pass(7);
        due("clay", 11, () -> v.count(1));
        due("pass(1): whole pipes alone", 3, () -> v.pass(1));
        due("clay that is left over", 2, () -> v.count(1));
        due("pass(1): too little for one", 0, () -> v.pass(1));
        due("pipes", 66, () -> v.count(6));
        fails("no batch of none", INDEX, v, () -> v.batch(8, 0));
        due("worn by 7 * 3 + 1, not more", 22, () -> v.about(0, 2));
        v.buy(0, 1);
        due("pass(1): enough for one", 1, () -> v.pass(1));
    }

    private static void promise18PassWear() {
        part = "promise 18, wear";
        int[] quarter = {0, 1, 1, 1, 1, 2, 2, 2, 2, 3};
        for (int skill = 1; skill <= 9; skill++) {
            PipeMoulds x = works(skill, 8, 9);
            x.pass(1);
            due("worn by " + skill + " pipes", quarter[skill], () -> x.about(0, 2));
        }
        PipeMoulds y = works(9, 8, 1);
        y.pass(4);
        row("the batch has the flaw ahead", new int[] {8, 9, 5, 8}, what -> y.batch(3, what));
        row("about, worn by 12", new int[] {8, 0, 12, 10, 1, 0}, what -> y.about(0, what));
        y.pass(3);
        row("about, worn by 21, no less than 0", new int[] {8, 0, 21, 11, 1, 0}, what -> y.about(0, what));
        due("batch 6", 10, () -> y.batch(6, 3));

        PipeMoulds z = works(9, 8, 9);
        z.buy(0, 120);
        for (int days = 1; days <= 35; days++) {
            z.pass(1);
            z.pack(0, (days - 1) % 6, 9);
            if (days % 6 == 0) {
                z.fire(1);
            }
            int worn = Math.min(100, days * 3);
            int stopper = Math.max(0, 9 - worn / 10);
            due("worn on day " + days, worn, () -> z.about(0, 2));
            due("stopper on day " + days, stopper, () -> z.about(0, 1));
        }
        due("the greatest flaw", 19, () -> z.about(0, 3));

        PipeMoulds w = works(9, 8, 9);
        w.pass(3);
        w.place(0, -1);
        w.maker(1);
        w.place(1, 0);
        w.pass(1);
        row("worn by just 10", new int[] {8, 8, 10, 2, 1, 1}, what -> w.about(0, what));
        row("its batch", new int[] {8, 1, 5, 0}, what -> w.batch(3, what));
    }

    private static void promise18PassWeather() {
        part = "promise 18, weather";
        PipeMoulds x = works(4, 8, 9);
        int[] table = {0, 3, 0, 1, 0, 2, 0};
        for (int day = 0; day < 7; day++) {
            x.setDry(day, table[day]);
        }
        x.pass(1);
        x.place(0, -1);
        x.pack(0, 2, 1);
        int wet = 6;
        for (int day = 1; day < 7; day++) {
            x.pass(1);
            wet = Math.max(0, wet - table[day]);
            int then = wet;
            due("a batch behind day " + day, then, () -> x.batch(0, 2));
            due("a saggar behind day " + day, then, () -> x.saggar(2, 2));
        }
        x.place(0, 0);
        x.pass(1);
        due("day 7 dries as day 0 does", 6, () -> x.batch(1, 2));
        x.pass(1);
        due("day 8 dries as day 1 does", 3, () -> x.batch(1, 2));
        due("a batch of this day dries too", 3, () -> x.batch(2, 2));
        due("no less than 0", 0, () -> x.batch(0, 2));
        due("no less than 0 in a saggar", 0, () -> x.saggar(2, 2));
        row("an empty saggar", new int[4], what -> x.saggar(0, what));
    }

    private static void promise18PassOrders() {
        part = "promise 18, orders";
        PipeMoulds x = withWhole(9);
        x.order(8, 10, 5, 50);
        x.order(8, 5, 0, 7);
        x.order(8, 5, 1, 11);
        x.order(8, 4, 2, 13);
        x.order(9, 1, 0, 17);
        x.pass(1);
        due("coins of the two that are served", 30 + 7 + 13, () -> x.count(3));
        due("served", 2, () -> x.count(10));
        due("lost", 1, () -> x.count(11));
        due("whole pipes", 0, () -> x.store(8));
        row("waits 0", new int[] {8, 10, 4, 50}, what -> x.waits(0, what));
        row("waits 1", new int[] {8, 5, 0, 11}, what -> x.waits(1, what));
        fails("waits(2, 0)", INDEX, x, () -> x.waits(2, 0));
        x.pass(1);
        due("lost with 0 days, when looked at once more", 2, () -> x.count(11));
        row("waits 0, then", new int[] {8, 10, 3, 50}, what -> x.waits(0, what));
        x.pass(3);
        due("waits with 0 days", 0, () -> x.waits(0, 2));
        x.pass(1);
        due("none wait", 0, () -> x.count(9));
        due("lost", 3, () -> x.count(11));
        due("coins", 50, () -> x.count(3));

        PipeMoulds y = withWhole(9);
        y.order(8, 9, 0, 99);
        y.pass(1);
        due("served with 0 days and just enough", 1, () -> y.count(10));
        due("coins", 129, () -> y.count(3));
        PipeMoulds z = withWhole(9);
        z.order(7, 1, 3, 9);
        z.order(9, 1, 3, 9);
        z.pass(1);
        due("other lengths do not serve", 2, () -> z.count(9));
    }

    private static void promise19Breaks() {
        part = "promise 19";
        PipeMoulds x = works(9, 10, 7);
        due("breaks(0, 1) of an empty one", 0, () -> x.breaks(0, 1));
        noDrying(x);
        x.pass(4);
        x.pack(0, 0, 9);
        x.pack(0, 1, 9);
        x.pack(0, 5, 9);
        x.pack(0, 4, 1);
        // Wet by 6 and flawed by 2: 52 of a hundred, and 5 in saggars 0 and 5.
        due("breaks(0, 10): 57 of 9", 6, () -> x.breaks(0, 10));
        due("breaks(1, 10): 52 of 9", 5, () -> x.breaks(1, 10));
        due("breaks(5, 10): 57 of 9", 6, () -> x.breaks(5, 10));
        due("breaks(4, 10): 52 of 1", 1, () -> x.breaks(4, 10));
        due("breaks(1, 1): 70 of 9", 7, () -> x.breaks(1, 1));
        due("breaks(1, 11): 54 of 9", 5, () -> x.breaks(1, 11));
        due("breaks(1, 30): 92 of 9", 9, () -> x.breaks(1, 30));
        due("breaks(0, 30): 97 of 9", 9, () -> x.breaks(0, 30));
        due("breaks(2, 30) of an empty one", 0, () -> x.breaks(2, 30));
        due("coals are not burnt", 20, () -> x.count(2));
        fails("breaks(-1, 1)", INDEX, x, () -> x.breaks(-1, 1));
        fails("breaks(6, 1)", INDEX, x, () -> x.breaks(6, 1));
        fails("breaks(6, 0)", INDEX, x, () -> x.breaks(6, 0));
        fails("breaks(0, 0)", ARGUMENT, x, () -> x.breaks(0, 0));
        fails("breaks(0, 31)", ARGUMENT, x, () -> x.breaks(0, 31));
        for (int far : FAR) {
            fails("breaks(" + far + ", 1)", INDEX, x, () -> x.breaks(far, 1));
            fails("breaks(0, " + far + ")", ARGUMENT, x, () -> x.breaks(0, far));
        }
        PipeMoulds y = works(9, 4, 0);
        noDrying(y);
        y.pass(1);
        y.pack(0, 0, 9);
        due("breaks(0, 30): 117, at most all", 9, () -> y.breaks(0, 30));
        PipeMoulds z = works(4, 24, 9);
        z.pass(6);
        z.place(0, -1);
        z.pass(6);
        z.pack(0, 2, 4);
        due("breaks(2, 17), with no share", 0, () -> z.breaks(2, 17));
        due("breaks(2, 16), 2 of a hundred of 4", 1, () -> z.breaks(2, 16));
        PipeMoulds v = works(1, 9, 9);
        v.pass(6);
        v.pack(0, 2, 1);
        due("breaks(2, 10), 1 of a hundred of 1", 1, () -> v.breaks(2, 10));
        due("breaks(2, 9), 1 of a hundred of 1", 1, () -> v.breaks(2, 9));
        for (int saggar : new int[] {0, 5}) {
            PipeMoulds w = works(9, 8, 6);
            w.pass(6);
            w.pack(0, saggar, 9);
            due("5 more, not 6: 6 + 5 of 9", 1, () -> w.breaks(saggar, 9));
            due("5 more, not 4: 6 + 12 + 5 of 9", 3, () -> w.breaks(saggar, 15));
        }
    }

    private static void promise20Advise() {
        part = "promise 20";
        PipeMoulds x = works(9, 8, 9);
        due("advise(), all empty", -1, () -> x.advise());
        x.pass(7);
        due("advise(), all on boards", -1, () -> x.advise());
        x.pack(0, 1, 9);
        long before = x.digest();
        due("advise(), none for 9 alone", 9, () -> x.advise());
        due("nothing is changed", before, () -> x.digest());
        x.fire(9);
        due("advise(), empty again", -1, () -> x.advise());
        // One wet pipe breaks with any coals.
        x.pack(5, 1, 1);
        due("advise(), always one", 1, () -> x.advise());

        for (int saggar = 0; saggar < 6; saggar++) {
            PipeMoulds w = works(9, 24, 9);
            w.pass(6);
            w.pack(0, saggar, 9);
            int want = saggar == 0 || saggar == 5 ? 14 : 17;
            due("advise() for saggar " + saggar, want, () -> w.advise());
        }

        PipeMoulds y = works(9, 4, 9);
        y.mould(24, 9);
        y.maker(9);
        y.place(1, 1);
        y.pass(1);
        y.place(0, -1);
        y.place(1, -1);
        y.pass(5);
        y.pack(1, 1, 9);
        due("advise(), for the long ones", 17, () -> y.advise());
        y.pack(0, 2, 9);
        int best = 0;
        int fewest = 1000;
        for (int coals = 1; coals <= 30; coals++) {
            int stems = y.breaks(1, coals) + y.breaks(2, coals);
            if (stems < fewest) {
                best = coals;
                fewest = stems;
            }
        }
        int want = best;
        due("advise(), for both", want, () -> y.advise());
        due("advise(), for both: 2 break with 7, 12 and 17", 7, () -> y.advise());

        PipeMoulds v = works(9, 4, 3);
        v.pass(6);
        v.pack(0, 1, 9);
        due("of 1 coal: 24 of 9", 3, () -> v.breaks(1, 1));
        due("of 2 coals: 22 of 9", 2, () -> v.breaks(1, 2));
        due("advise(), 12 to 22 of 9 from 2 coals on", 2, () -> v.advise());

        PipeMoulds z = works(1, 24, 9);
        z.pass(1);
        z.place(0, -1);
        z.buy(1, 30);
        z.pass(5);
        z.pack(0, 0, 1);
        z.fire(30);
        z.place(0, 0);
        z.pass(1);
        z.place(0, -1);
        z.pass(5);
        z.fire(z.pack(0, 3, 1) + 20);
        due("no coals", 0, () -> z.count(2));
        z.place(0, 0);
        z.pass(1);
        z.place(0, -1);
        z.pass(5);
        z.pack(0, 3, 1);
        due("advise(), however many there are", 17, () -> z.advise());
    }

    private static void promise21Ready() {
        part = "promise 21";
        PipeMoulds x = withWhole(9);
        fails("ready(0) without orders", INDEX, x, () -> x.ready(0));
        x.order(8, 10, 0, 1);
        x.order(8, 4, 0, 1);
        x.order(9, 1, 30, 1);
        x.order(8, 5, 3, 1);
        x.order(8, 1, 30, 1);
        long before = x.digest();
        due("ready(0), lost", -1, () -> x.ready(0));
        due("ready(1), on the coming day", 1, () -> x.ready(1));
        due("ready(2), lost behind 31 days", -1, () -> x.ready(2));
        due("ready(3), behind others that go", 1, () -> x.ready(3));
        due("ready(4), lost, as those ahead took all", -1, () -> x.ready(4));
        due("nothing is changed", before, () -> x.digest());
        fails("ready(-1)", INDEX, x, () -> x.ready(-1));
        fails("ready(5)", INDEX, x, () -> x.ready(5));
        for (int far : FAR) {
            fails("ready(" + far + ")", INDEX, x, () -> x.ready(far));
        }
        PipeMoulds y = withWhole(9);
        y.place(0, 0);
        y.order(8, 9, 2, 1);
        y.order(8, 1, 0, 1);
        y.pass(1);
        due("one served, one lost", 101, () -> y.count(10) * 100 + y.count(11));
        y.order(8, 1, 2, 1);
        due("pipes of coming days are on boards, not in the store", -1, () -> y.ready(0));
    }

    private static void promise22Foresee() {
        part = "promise 22";
        PipeMoulds x = new PipeMoulds();
        fails("foresee(0, 0)", ARGUMENT, x, () -> x.foresee(0, 0));
        fails("foresee(41, 0)", ARGUMENT, x, () -> x.foresee(41, 0));
        fails("foresee(0, 12)", ARGUMENT, x, () -> x.foresee(0, 12));
        fails("foresee(1, -1)", INDEX, x, () -> x.foresee(1, -1));
        fails("foresee(1, 12)", INDEX, x, () -> x.foresee(1, 12));
        for (int far : FAR) {
            fails("foresee(" + far + ", 0)", ARGUMENT, x, () -> x.foresee(far, 0));
            fails("foresee(1, " + far + ")", INDEX, x, () -> x.foresee(1, far));
        }
        due("foresee(40, 0)", 40, () -> x.foresee(40, 0));
        due("the day", 0, () -> x.count(0));

        PipeMoulds y = withWhole(7);
        y.order(8, 4, 3, 5);
        y.order(8, 4, 3, 5);
        y.place(0, 0);
        y.pass(1);
        y.pack(0, 4, 3);
        long before = y.digest();
        row("foresee 3", new int[] {10, 165, 11, 35, 35, 0, 25, 3, 3, 0, 1, 1},
                what -> what == 11 ? y.foresee(4, what) : y.foresee(what == 9 ? 4 : 3, what));
        row("foresee 40", new int[] {47, 123, 11, 35, 14 + 63, 0, 4 + 63, 3, 3, 0, 1, 1},
                what -> y.foresee(40, what));
        due("nothing is changed", before, () -> y.digest());
        due("foresee(1, 4) behind longer ones", 21, () -> y.foresee(1, 4));
        y.fire(1);
        due("foresee(2, 5), as many as broke till now", y.count(5), () -> y.foresee(2, 5));
        due("56 of a hundred of 3", 2, () -> y.count(5));
    }

    private static void promise23Mean() {
        part = "promise 23";
        PipeMoulds x = works(1, 8, 5);
        x.mould(9, 2);
        x.maker(3);
        dueDouble("mean() without pipes", 0.0, () -> x.mean());
        x.pass(1);
        dueDouble("mean() of one", 4.0, () -> x.mean());
        x.place(1, 1);
        x.place(0, -1);
        x.pass(1);
        dueDouble("mean() of 4 and 3 * 7", 25.0 / 4.0, () -> x.mean());
        x.pack(1, 0, 1);
        dueDouble("mean() of 4 and 2 * 7", 18.0 / 3.0, () -> x.mean());
        x.pack(1, 1, 1);
        dueDouble("mean() of 4 and 7", 5.5, () -> x.mean());
        x.pack(0, 2, 1);
        x.pack(0, 3, 1);
        dueDouble("mean(), all in saggars", 0.0, () -> x.mean());
        PipeMoulds y = works(3, 8, 5);
        y.mould(8, 4);
        y.maker(4);
        y.place(1, 1);
        y.pass(1);
        dueDouble("mean() of 3 * 4 and 4 * 5", 32.0 / 7.0, () -> y.mean());
    }

    private static void promise24Digest() {
        part = "promise 24";
        PipeMoulds x = new PipeMoulds();
        due("digest() of a new one", reckonedDigest(x, new int[] {1, 1, 1, 1, 1, 1, 1}, 0, 0, 0, 0), () -> x.digest());
        PipeMoulds y = withWhole(9);
        y.mould(24, 3);
        y.maker(4);
        y.place(1, 1);
        y.order(8, 3, 4, 5);
        y.order(24, 9, 9, 9);
        y.order(24, 9, 9, 8);
        y.setDry(2, 3);
        y.setDry(5, 0);
        y.pass(4);
        y.pack(1, 3, 2);
        y.pack(0, 5, 4);
        int[] table = {1, 1, 3, 1, 1, 0, 1};
        due("digest()", reckonedDigest(y, table, 2, 2, 3, 2), () -> y.digest());
        due("digest() again", y.digest(), () -> y.digest());
    }

    private static long reckonedDigest(PipeMoulds x, int[] table, int moulds, int makers, int batches, int orders) {
        long d = 1423;
        for (int what = 0; what < 12; what++) {
            d = d * 31 + x.count(what);
        }
        for (int by : table) {
            d = d * 31 + by;
        }
        for (int cell = 0; cell < moulds * 6; cell++) {
            d = d * 31 + x.about(cell / 6, cell % 6);
        }
        for (int cell = 0; cell < makers * 2; cell++) {
            d = d * 31 + x.told(cell / 2, cell % 2);
        }
        for (int cell = 0; cell < batches * 4; cell++) {
            d = d * 31 + x.batch(cell / 4, cell % 4);
        }
        for (int cell = 0; cell < 6 * 4; cell++) {
            d = d * 31 + x.saggar(cell / 4, cell % 4);
        }
        for (int length = 4; length <= 24; length++) {
            d = d * 31 + x.store(length);
        }
        for (int cell = 0; cell < orders * 4; cell++) {
            d = d * 31 + x.waits(cell / 4, cell % 4);
        }
        return d;
    }
}
