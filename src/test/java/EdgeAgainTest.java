/** What a text or a run leaves behind for the next one: nothing but what the document keeps; see Due for the lines. */
public final class EdgeAgainTest {
    private static final int NONE = MeasuringHouse.NONE;
    private static final int BITS = 10;

    public static void main(String[] arguments) {
        textsWithFaults();
        textsOfGreatSize();
        numbersOfPaths();
        runsLeft();
        operandsLeft();
        pathsGone();
        pathsFarApart();
        Due.end("EdgeAgainTest");
    }

    private static void textsWithFaults() {
        Due.play("Promise 3: a text that ended in the midst of a try, a loop and a lock tells nothing of the next one", """
            bad `a(){try{while(1){lock 1{for i=1 to 2{^` = 1
            text `a(){x=1;lock 2{y=1;}}` = 1
            nodes(0) = 0 0 0 / 1 0 0 / 2 0 0 / 3 4 0 / 12 8 0 / 3 15 0 / 13 19 0
            ways(0) = 0 3 0 0 1 0 / 3 4 0 0 1 0 / 3 2 3 0 0 1 / 4 5 0 0 1 0 / 4 2 3 0 0 1 / 5 6 0 0 1 0 / 5 2 3 0 0 1 / 6 1 0 0 1 1
            begin(0, 0, 0, 0) = 1
            run(2) = 2
            lock(2, 0) = 0
            run(9) = 2
            lock(2, *) = -1 1 0 0 0 2 1
            bad `a(){while(1){for x=1 to 2{^` = 1
            bad `a(){^break;}` = 2
            bad `a(){for x=1 to 2{^` = 1
            text `a(){x=1;}` = 1
            bad `a(){try{x=^` = 1
            fails `a(){x=1/0;}` = 1
            """);
        Due.play("Promise 3: vars, members and NAMES of another text are not told in this one", """
            text `var v;a(p){x=v;}b(){}` = 2
            bad `a(){print ^v;}` = 2
            bad `a(){print ^x;}` = 2
            bad `a(){print ^p;}` = 2
            bad `a(){^b();}` = 2
            bad `var w;a(q){y=1;b(` = 1 17
            bad `a(){print ^w;}` = 2
            text `a(v){v=1;w=1;for x=1 to 2{}}` = 1
            member(0, *) = 0 1 3 7 9 1 7 5
            """);
    }

    private static void textsOfGreatSize() {
        Due.play("Promise 3: texts with as many statements as there can be, one behind the other", """
            text `a(){$498[x=1;$]   }` = 1
            text `a(){$498[y=1;$]   }` = 1
            text `a(){$498[z=1;$]   }` = 1
            text `a(){$498[u=1;$]   }` = 1
            text `a(){$498[x=1;$]   }` = 1
            node(0, 500, *) = 3 1992 0
            """);
        Due.play("Promise 3: texts with as many ifs as there can be, one behind the other", """
            text `a(){$284[if(1){}$]}` = 1
            text `a(){$284[if(1){}$]}` = 1
            text `a(){$284[if(1){}$]}` = 1
            member(0, *) = 0 0 0 287 853 0 -1
            bound(0, 0, 0) = 284
            begin(0, 0, 0, 0) = 1
            run(20000) = 284
            """);
        Due.play("Promise 3: texts with as many loops as there can be, one behind the other", """
            text `a(){$199[while(0){}$]}` = 1
            text `a(){$199[while(0){}$]}` = 1
            text `a(){$199[while(0){}$]}` = 1
            member(0, 5) = 199
            begin(0, 0, 0, 0) = 1
            run(20000) = 199
            loop(0, 198, *) = 201 1 0 0 0 1 0 0 0
            loop(0, 199, 0) = -1
            """);
    }

    private static void numbersOfPaths() {
        Due.play("Promise 18: NUMBERS of a text know nothing of another one's", """
            text `a(){while(1){}}` = 1
            path(0, *, -1) = 2 2 2 1 1 1 -1
            text `a(){}b(){x=1;}` = 2
            path(1, *, -1) = 2 2 -1
            path(1, 0, *) = 0 1 -1
            path(1, 1, *) = 0 2 -1
            begin(1, 0, 0, 0) = 1
            run(9) = 1
            gone(1, *) = 1 0 -1
            most(1, *) = 0 -1
            """);
    }

    private static void runsLeft() {
        Due.play("Promise 11: a run left when a thread is about to take its second step", """
            text `a(){join start b();print 1;}b(){x=1;}c(){print 7;print 8;}d(){x=start c();lock 2{y=1;}}` = 4
            begin(0, 0, 0, 0) = 1
            run(2) = 2
            thread(0, *) = 0 1 0 3 -1 -1 1 -1 1
            begin(2, 0, 0, 0) = 1
            thread(0, *) = 0 1 2 3 -1 -1 0 -1 0
            run(20000) = 2
            printed(*) = 7 8 0
            begin(0, 0, 0, 0) = 1
            run(2) = 2
            begin(3, 0, 0, 0) = 1
            run(20000) = 6
            printed(*) = 7 8 0
            """);
        Due.play("Promise 27: the LONGEST WAY knows nothing of the LOCKS and JOINS of the run before", """
            text `a(){x=start b();lock 1{y=1;}}b(){lock 1{z=1;}}c(){x=start d();y=1;y=2;y=3;}d(){z=1;z=2;z=3;}e(){x=start n();y=start j();$5[z=1;$]}n(){}j(){join 1;}` = 7
            begin(0, 0, 0, 0) = 1
            run(20000) = 7
            longest(0) = 7
            begin(2, 0, 0, 0) = 1
            run(20000) = 7
            longest(0) = 4
            begin(0, 0, 0, 0) = 1
            run(20000) = 7
            begin(4, 0, 0, 0) = 1
            run(20000) = 8
            longest(0) = 7
            begin(2, 0, 0, 0) = 1
            run(20000) = 7
            longest(0) = 4
            """);
        Due.play("Promise 33: places are empty behind a text: place 0, place 1", """
            text `a(){x=1;}` = 1
            begin(0, 0, 0, 0) = 1
            run(9) = 1
            keep(0) = 1
            keep(1) = 1
            text `a(){x=1;x=2;}` = 1
            begin(0, 0, 0, 0) = 1
            run(9) = 2
            keep(1) = 1
            parts(0, *) = 0 0 0 0
            keep(0) = 1
            begin(0, 0, 0, 0) = 1
            run(1) = 1
            keep(0) = 1
            parts(0, *) = 1 0 0 1
            text `a(){x=1;x=2;}` = 1
            begin(0, 0, 0, 0) = 1
            run(9) = 2
            keep(0) = 1
            parts(0, *) = 0 0 0 0
            """);
    }

    /** Runs left with many values that wait leave no such values behind. */
    private static void operandsLeft() {
        MeasuringHouse house = new MeasuringHouse();
        Due.is("load", Due.load(house, "a(){x=1+(2+(3+(4+(5+(6+(7+(8+a())))))));}b(){print 1+(2+(3+4));}"), 2);
        for (int i = 0; i < 60; i++) {
            house.begin(0, 0, 0, 0);
            Due.is("steps", house.run(39), 39);
            Due.is("activations", house.thread(0, 1), 40);
        }
        house.begin(1, 0, 0, 0);
        house.run(1);
        Due.is("printed", house.printed(0), 10);
    }

    /** The NUMBER of a PATH through ifs that are yes where a bit is 1, if the PATH with all yes has the first number. */
    private static int numberOf(int bits, int ifs, int first) {
        int number = first;
        for (int bit = 0; bit < ifs; bit++) {
            int behind = (2 << (ifs - 1 - bit)) - 1;
            number += (bits >> bit & 1) == 1 ? 0 : behind;
        }
        return number;
    }

    private static void addIfs(StringBuilder text, String of, int ifs) {
        for (int bit = 0; bit < ifs; bit++) {
            text.append("if(").append(of).append('/').append(1 << bit).append("%2){}");
        }
    }

    private static MeasuringHouse houseOfPaths(int runs) {
        StringBuilder text = new StringBuilder("a(){for i=0 to 1023{");
        addIfs(text, "i", BITS);
        MeasuringHouse house = new MeasuringHouse();
        Due.is("load", Due.load(house, text.append("}}").toString()), 1);
        Due.is("PATHS", house.member(0, 6), 4097);
        for (int i = 0; i < runs; i++) {
            house.begin(0, 0, 0, 0);
            Due.is("steps", house.run(20000), 2 + 1024 * (BITS + 1));
        }
        return house;
    }

    /** 900 PATHS gone, far from one another: x goes through the numbers below 131072, as a turn does in the text, too. */
    private static void pathsFarApart() {
        int ifs = 17;
        StringBuilder text = new StringBuilder("a(){x=1;for i=1 to 900{x=(x*1105+12345)%131072;");
        addIfs(text, "x", ifs);
        for (int part = 0; part < 3; part++) {
            MeasuringHouse house = new MeasuringHouse();
            Due.is("load", Due.load(house, text + "}}"), 1);
            Due.is("PATHS", house.member(0, 6), 262147 + 262145);
            house.begin(0, 0, 0, 0);
            Due.is("steps", house.run(20000), 3 + 900 * (ifs + 2));
            int x = 1;
            for (int turn = 0; turn < 900; turn++) {
                x = (x * 1105 + 12345) % 131072;
                if (turn / 300 == part) {
                    int number = numberOf(x, ifs, turn == 0 ? 0 : 262147);
                    Due.is("gone in turn " + turn, house.gone(0, number), 1);
                    if (x >= 65536) {
                        Due.is("by failure at the last if", house.gone(0, number + 2), 0);
                    }
                }
            }
            Due.is("no", house.gone(0, 262147 + 262144), 1);
            Due.is("how many", house.most(0, 900) == NONE ? 0 : 1, 1);
            Due.is("not more", house.most(0, 901), NONE);
        }
    }

    /** 1,024 PATHS gone, each once: by NUMBER, and in the order in which they are told. */
    private static void pathsGone() {
        for (int part = 0; part < 4; part++) {
            MeasuringHouse house = houseOfPaths(part == 3 ? 30 : 1);
            for (int turn = 256 * part; turn < 256 * part + 256; turn++) {
                int number = turn == 0 ? numberOf(0, BITS, 0) : numberOf(turn, BITS, 2049);
                Due.is("gone " + turn, house.gone(0, number), 1);
            }
            Due.is("yes and no only", house.gone(0, 2049 + 2046), 0);
            Due.is("no", house.gone(0, 2049 + 2047), 1);
        }
        MeasuringHouse house = houseOfPaths(3);
        Due.is("the least NUMBER", house.most(0, 0), numberOf(0, BITS, 0));
        Due.is("the next one: all yes", house.most(0, 1), 2049);
        Due.is("the last one: no", house.most(0, 1024), 4096);
        Due.is("the one ahead of it", house.most(0, 1023), numberOf(512, BITS, 2049));
        Due.is("none more", house.most(0, 1025), NONE);
    }
}
