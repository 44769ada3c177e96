/** The boundary cases that PART 3 and promises 9 to 15 name; see Due for what the lines mean. */
public final class EdgeRunTest {
    private static final int NONE = MeasuringHouse.NONE;

    public static void main(String[] arguments) {
        failures();
        bounds();
        noRoom();
        tooMany();
        endedAtOnce();
        locks();
        turns();
        conditions();
        asked();
        refused();
        Due.end("EdgeRunTest");
    }

    /** A statement, behind which v is nil, w an array of 2 and x 5: the failure that it makes (NONE: none). */
    private static void fails(int kind, String... statements) {
        for (String statement : statements) {
            MeasuringHouse house = new MeasuringHouse();
            String ahead = "var v;var w;a(){v=nil;w=new[2];x=5;";
            String behind = "}b(p){}c(){return 1/0;}";
            Due.is(statement + ": load", Due.load(house, ahead + statement + behind), 3);
            house.begin(0, 0, 0, 0);
            house.run(20000);
            Due.is(statement + ": state", house.state(0), 2);
            Due.is(statement, house.thread(0, 7), kind);
            Due.is(statement + ": how it ended", house.thread(0, 0), kind == NONE ? 3 : 4);
            for (int failure = 0; failure < 10; failure++) {
                Due.is(statement + ": made of " + failure, house.thrown(failure, 0), failure == kind ? 1 : 0);
                Due.is(statement + ": threads of " + failure, house.thrown(failure, 3), failure == kind ? 1 : 0);
            }
            Due.load(house, ahead + "try{" + statement + "}catch e{print e;}" + behind);
            house.begin(0, 0, 0, 0);
            house.run(20000);
            Due.is(statement + ": caught", house.state(4), kind == NONE ? 0 : 1);
            Due.is(statement + ": its value", house.printed(0), Math.max(kind, 0));
        }
    }

    private static void failures() {
        fails(1, "x=1/0;", "x=1%0;", "x=0/0;", "x=0%0;", "x=7/(x-5);", "x=c();", "b(1/0);", "x=start b(1/0);",
            "throw 1/0;", "throw c();", "return 1/0;", "if(1/0){}", "while(1/0){}", "lock 1/0{}", "join 1/0;");
        // All is worked out from the left, each side wholly, both sides always.
        fails(1, "x=nil+1/0;", "x=1/0+nil;", "x=0&1/0;", "x=1|1/0;", "x=nil=1/0;", "x=1/0+new[201];", "for i=nil to 1/0{}",
            "x=v[1/0];", "x=x[1/0];", "v[1/0]=1;", "v[0]=1/0;", "v[nil]=1/0;", "w[5]=1/0;", "w[nil]=1/0;", "x[0]=1/0;");
        fails(5, "x=new[201]+1/0;");
        fails(2, "x=w[2];", "x=w[-1];", "x=w[999999999];", "x=w[-999999999];", "w[2]=1;", "w[-1]=1;", "v=new[0];x=v[0];",
            "v=new[0];v[0]=1;", "v=new[200];x=v[200];", "v=new[200];v[200]=1;");
        fails(NONE, "x=w[0]+w[1];", "w[0]=1;w[1]=nil;", "v=new[200];v[199]=w;x=v[199];x=x[1];", "v=new[1];v[0]=v;x=len v[0];");
        fails(3, "x=v[0];", "x=v[-1];", "v[0]=1;", "x=len v;", "x=len nil;");
        // W[ex] looks at both when both are worked out: W nil and ex nil: 3.
        fails(3, "x=v[nil];", "x=v[w];", "v[nil]=1;", "v[w]=nil;");
        fails(4, "x=x[0];", "x=x[nil];", "x=x[-1];", "x=x[99];", "x[0]=1;", "x[99]=1;", "x=w[nil];", "x=w[w];", "w[nil]=1;",
            "w[w]=1;", "x=len 3;", "x=len x;", "x=new[nil];", "x=new[w];", "lock nil{}", "lock w{}", "join nil;", "join w;",
            "print nil;", "print w;", "x=-nil;", "x=-w;", "x=nil+1;", "x=1-nil;", "x=w*2;", "x=nil<1;", "x=1>nil;", "x=w<w;",
            "for i=nil to 2{}", "for i=1 to nil{}", "for i=w to 1{}", "for i=3 to w{}");
        // 4 is ahead of 1, 2, 5, 8 and 9.
        fails(4, "x=nil/0;", "x=w%0;", "x=0/nil;", "x=nil/nil;", "x=w*999999999;", "x=999999999*w;");
        fails(NONE, "x=nil=nil;", "x=w=5;", "x=nil#w;", "x=nil&w;", "x=nil|0;", "x=!nil;", "x=!w;", "if(nil){}", "if(w){}",
            "while(nil){}", "x=w=w;", "x=nil;", "return nil;", "b(nil);", "x=start b(w);");
        fails(0, "throw 0;", "x=0;throw x;", "if(x){throw -x*0;}");
        fails(5, "x=new[-1];", "x=new[201];", "x=new[999999999];", "x=new[-999999999];");
        fails(NONE, "x=new[0];", "x=new[200];", "x=len new[200]-200;");
        fails(8, "lock 8{}", "lock -1{}", "lock 999999999{}", "lock -999999999{}");
        fails(NONE, "lock 0{}", "lock 7{}", "lock 7{lock 0{}}");
        fails(8, "join 0;", "join 1;", "join -1;", "join 8;", "join 999999999;", "x=start b(1);join x+1;");
        fails(NONE, "join start b(1);", "x=start b(1);x=start b(2);join 1;join 2;join 1;");
    }

    private static void bounds() {
        // 2147483647 is 999999999 * 2 + 147483649, the greatest number; -2147483648 is none, too.
        fails(NONE, "x=999999999+999999999+147483649;", "x=-999999999-999999999-147483649;", "x=46340*46340;",
            "x=65535*32768;", "x=-65535*32768;", "x=-(999999999*2+147483649);", "x=(-999999999*2-147483649)/-1;",
            "x=(999999999*2+147483649)%-1;", "x=(999999999*2+147483649)*-1;", "x=(999999999*2+147483649)*1;");
        fails(9, "x=999999999+999999999+147483650;", "x=-999999999-999999999-147483650;", "x=65536*32768;",
            "x=-65536*32768;", "x=46341*46341;", "x=65535*32769;", "x=999999999*3;", "x=-999999999*3;",
            "x=(999999999*2+147483649)*(999999999*2+147483649);", "x=(999999999*2+147483649)+1;",
            "x=(-999999999*2-147483649)-1;", "x=1-(-999999999*2-147483649);", "x=(-999999999*2-147483649)*2;");
        Due.play("for: as long as it is not above the second; ends at the bounds of numbers", """
            text `a(){for i=999999999*2+147483648 to 999999999*2+147483649{print i;}print i;for i=-999999999*2-147483649 to -999999999*2-147483648{print i;}for i=3 to 3{print i;}for i=3 to 2{print i;}print i;}` = 1
            begin(0, 0, 0, 0) = 1
            run(20000) = 20
            printed(*) = 2147483646 2147483647 2147483647 -2147483647 -2147483646 3 3 0
            loop(0, *, 2) = 2 2 1 0
            """);
        Due.play("/ and % are cut towards 0", """
            text `a(){print 7/2;print -7/2;print 7/-2;print -7/-2;print 7%2;print -7%2;print 7%-2;print -7%-2;print 1/2;print -1/2;print 0/5;print -1%2;}` = 1
            begin(0, 0, 0, 0) = 1
            run(20000) = 12
            printed(*) = 3 -3 -3 3 1 -1 1 -1 0 0 0 -1
            """);
    }

    private static void noRoom() {
        Due.play("6 no room: the 301st array", """
            fails `a(){for i=1 to 300{x=new[0];}}` = -1
            state(7) = 300
            made(299, *) = 0 5 0 16 601 601 -1
            made(300, 0) = -1
            fails `a(){for i=1 to 300{x=new[0];}x=new[0];}` = 6
            state(7) = 300
            fails `a(){for i=1 to 300{x=new[20];}try{x=new[0];}catch e{print e;}}` = -1
            printed(0) = 6
            thrown(6, *) = 1 1 0 0
            """);
        Due.play("6 no room: more than 6,000 elements in all", """
            fails `a(){for i=1 to 30{x=new[200];}x=new[0];}` = -1
            state(7) = 31
            fails `a(){for i=1 to 30{x=new[200];}x=new[1];}` = 6
            state(7) = 30
            fails `a(){for i=1 to 29{x=new[200];}x=new[199];try{x=new[2];}catch e{print e;}x=new[1];try{x=new[1];}catch e{print e;}x=new[0];}` = -1
            printed(*) = 6 6 0
            state(7) = 32
            """);
        Due.play("6 no room: an array that is not REACHED any more takes room, too; one that failed costs nothing", """
            text `a(){for i=1 to 30{x=new[200];x=0;}try{x=new[1];}catch e{print e;}}` = 1
            price(17, 3) = 0
            begin(0, 0, 0, 0) = 1
            run(20000) = 95
            printed(0) = 6
            state(5) = 18095
            made(29, 5) = 90
            """);
        Due.play("6 no room: the 401st number printed", """
            fails `a(){for i=1 to 400{print i;}}` = -1
            state(4) = 400
            printed(399) = 400
            fails `a(){for i=1 to 400{print i;}print 7;}` = 6
            state(4) = 400
            printed(399) = 400
            printed(400) = 0
            fails `a(){for i=1 to 400{print i;}try{print 7;}catch e{x=e;}x=x/(x-6);}` = 1
            """);
    }

    private static void tooMany() {
        Due.play("7 the 41st activation in a thread", """
            argument(0, 40) = 0
            fails `a(p){if(p>1){a(p-1);}}` = -1
            count(0, 0) = 40
            tree(41, 2) = 1
            argument(0, 41) = 40
            fails `a(p){if(p>1){a(p-1);}}` = 7
            count(0, 0) = 40
            thrown(7, *) = 1 0 40 1
            state(1) = 80
            argument(0, 39) = 41
            fails `a(p){if(p>1){a(p-1);}else{e();}}e(){}` = -1
            count(1, 0) = 1
            argument(0, 40) = 39
            fails `a(p){if(p>1){a(p-1);}else{e();}}e(){}` = 7
            count(1, 0) = 0
            """);
        Due.play("7 the 41st activation in a thread: each thread has its own", """
            text `a(p){x=start b(40);b(p);}b(p){if(p>1){b(p-1);}}` = 2
            argument(0, 39) = 0
            begin(0, 0, 0, 0) = 1
            run(20000) = 158
            thread(0, 0) = 3
            thread(1, 0) = 3
            count(1, 0) = 79
            argument(0, 40) = 39
            begin(0, 0, 0, 0) = 1
            run(20000) = 159
            thread(0, *) = 4 0 -1 -1 -1 -1 80 7 0
            thread(1, 0) = 3
            argument(0, 1) = 40
            text `a(p){x=start b(41);}b(p){if(p>1){b(p-1);}}` = 2
            begin(0, 7, 0, 0) = 1
            run(20000) = 81
            thread(0, 0) = 3
            thread(1, 7) = 7
            """);
        Due.play("7 the 41st activation in a thread: 40 with a loop under way in each", """
            text `a(p){for i=1 to 2{if(i=1){if(p>1){a(p-1);}}}}` = 1
            argument(0, 40) = 0
            begin(0, 0, 0, 0) = 1
            run(20000) = 319
            loop(0, 0, *) = 4 40 80 2 2 40 0 0 0
            thread(0, 0) = 3
            argument(0, 41) = 40
            begin(0, 0, 0, 0) = 1
            run(20000) = 200
            loop(0, 0, *) = 4 40 40 1 1 0 0 0 40
            thread(0, 7) = 7
            """);
        Due.play("7 the 30001st in a run (first ones of threads are activations, too): 29,999, then one or two more", """
            text `a(){for i=1 to 299{f();}g();e();}b(){for i=1 to 299{f();}g();e();e();}c(){for i=1 to 299{f();}g();x=start e();}d(){for i=1 to 299{f();}g();x=start e();e();}k(){for i=1 to 299{f();}g();e();x=start e();}f(){x=e()$98[+e()$];}g(){x=e()$96[+e()$];}e(){}` = 8
            begin(0, 0, 0, 0) = 1
            run(20000) = 902
            thread(0, *) = 3 0 -1 -1 -1 -1 902 -1 0
            count(7, 0) = 29699
            begin(1, 0, 0, 0) = 1
            run(20000) = 903
            thread(0, *) = 4 0 -1 -1 -1 -1 903 7 0
            count(7, 0) = 29699
            begin(2, 0, 0, 0) = 1
            run(20000) = 902
            thread(0, 0) = 3
            state(3) = 2
            begin(3, 0, 0, 0) = 1
            run(20000) = 903
            thread(0, 7) = 7
            state(3) = 2
            begin(4, 0, 0, 0) = 1
            run(20000) = 903
            thread(0, 7) = 7
            state(3) = 1
            """);
        Due.play("7 the 9th thread, those that have ended, too", """
            fails `a(){for i=1 to 7{x=start e();}}e(){}` = -1
            state(3) = 8
            fails `a(){for i=1 to 8{x=start e();}}e(){}` = 7
            state(3) = 8
            thread(7, 0) = 3
            thread(8, 0) = -1
            fails `a(){for i=1 to 7{x=start b();}try{x=start b();}catch e{print e;}print x;}b(){x=1;}` = -1
            state(3) = 8
            printed(*) = 7 7
            """);
    }

    private static void endedAtOnce() {
        Due.play("If a member's FIRST is END, it has ended at once, without a step: begin()", """
            text `a(){}b(){try{}catch e{x=1;}}c(){if(0){}}` = 3
            begin(0, 0, 0, 1) = 1
            state(*) = 2 0 -1 1 0 0 1 0 0 3
            run(20000) = 0
            thread(0, *) = 3 0 -1 -1 -1 -1 0 -1 0
            count(0, 0) = 1
            gone(0, 0) = 1
            tree(2, *) = 0 0 1 0 0 -1 -1
            longest(*) = 0 0 0
            gain(3, 9) = 0
            look() = 0
            seen(0, *) = 0 0 0
            keep(0) = 1
            keep(1) = 1
            parts(0, 0) = 0
            weigh(1) = 1
            way(0, 0, 4) = 1
            begin(1, 5, 1, 0) = 1
            state(*) = 2 0 -1 1 0 0 1 0 0 3
            begin(2, 0, 0, 0) = 1
            state(*) = 1 0 0 1 0 0 0 0 0 3
            run(5) = 1
            """);
        Due.play("If a member's FIRST is END, it has ended at once, without a step: a call, a thread", """
            text `a(){print e()+1;x=start e();print x;join x;join start e();}e(){}` = 2
            begin(0, 3, 0, 0) = 1
            run(2) = 2
            printed(0) = 1
            state(*) = 1 2 0 2
            thread(1, *) = 3 0 -1 -1 -1 -1 0 -1 0
            run(9) = 3
            state(*) = 2 5 -1 3 2
            count(1, 0) = 3
            tree(3, *) = 2 1 1 0 0 -1 -1
            tree(4, *) = 0 1 2 0 0 -1 -1
            gone(1, 0) = 3
            """);
    }

    private static void locks() {
        Due.play("LOCK: takes it, or once more if the thread has it; UNLOCK lets it go (once)", """
            text `a(){lock 0{lock 0{lock 0{x=start b();}x=1;}x=2;}x=3;}b(){lock 0{y=1;}}` = 2
            begin(0, 0, 0, 0) = 1
            run(4) = 4
            lock(0, *) = 0 1 2 0 0 3 1
            run(2) = 2
            lock(0, *) = 0 1 2 0 0 5 1
            run(2) = 2
            lock(0, *) = 0 1 2 0 0 7 1
            run(2) = 2
            lock(0, *) = -1 1 2 0 0 8 1
            run(20000) = 3
            lock(0, *) = -1 2 2 0 0 10 3
            """);
        Due.play("What leaves a lock's body by RETURN lets it go, as often as it was taken there", """
            text `a(){x=l();y=1;}l(){lock 1{lock 1{lock 2{return 5;}}}}` = 2
            begin(0, 0, 0, 0) = 1
            run(4) = 4
            lock(1, *) = 0 1 1 0 0 2 1
            lock(2, *) = 0 1 0 0 0 0 1
            run(1) = 1
            lock(1, *) = -1 1 1 0 0 3 1
            lock(2, *) = -1 1 0 0 0 1 1
            """);
        Due.play("A call out of a lock's body doesn't leave it; what the member took it lets go alone", """
            text `a(){lock 1{x=l();y=1;}}l(){lock 1{return 5;}}` = 2
            begin(0, 0, 0, 0) = 1
            run(4) = 4
            lock(1, *) = 0 1 1 0 0 3 1
            thread(0, 3) = 5
            run(20000) = 2
            lock(1, *) = -1 1 1 0 0 5 1
            """);
        Due.play("BREAK lets go what was taken in the loop alone", """
            text `a(){lock 1{while(1){lock 2{lock 1{break;}}}x=1;}}` = 1
            begin(0, 0, 0, 0) = 1
            run(4) = 4
            lock(1, *) = 0 1 1 0 0 3 1
            lock(2, *) = 0 1 0 0 0 1 1
            run(1) = 1
            lock(1, *) = 0 1 1 0 0 4 1
            lock(2, *) = -1 1 0 0 0 2 1
            thread(0, 3) = 10
            run(20000) = 2
            lock(1, *) = -1 1 1 0 0 6 1
            """);
        Due.play("A failure way that goes out of it lets it go, one that stays in it doesn't", """
            text `a(){lock 1{try{lock 1{lock 2{throw 1;}}}catch e{x=1;}}lock 3{try{throw 2;}catch e{x=2;}throw 3;}}` = 1
            begin(0, 0, 0, 0) = 1
            run(4) = 4
            lock(1, *) = 0 1 1 0 0 3 1
            lock(2, *) = -1 1 0 0 0 1 1
            run(3) = 3
            lock(1, *) = -1 1 1 0 0 6 1
            run(2) = 2
            lock(3, *) = 0 1 0 0 0 1 1
            run(2) = 2
            lock(3, *) = 0 1 0 0 0 3 1
            run(20000) = 1
            lock(3, *) = -1 1 0 0 0 4 1
            thread(0, 0) = 4
            """);
        Due.play("A failure on its way through activations lets go the locks of each", """
            text `a(){lock 1{try{b();}catch e{print e;}}}b(){lock 2{lock 1{c();}}}c(){lock 3{lock 2{throw 9;}}}` = 3
            begin(0, 0, 0, 0) = 1
            run(7) = 7
            lock(2, *) = 0 1 1 0 0 4 1
            run(1) = 1
            lock(1, *) = 0 1 1 0 0 7 1
            lock(2, *) = -1 1 1 0 0 5 1
            lock(3, *) = -1 1 0 0 0 2 1
            run(20000) = 3
            printed(0) = 9
            lock(1, *) = -1 1 1 0 0 10 1
            """);
        Due.play("A lock that is let go wholly is the first one's in its row at once; a second step at the same node and cost", """
            text `a(){lock 4{x=start b();x=start b();join start c();}}b(){lock 4{y=1;}}c(){y=1;y=2;}` = 3
            price(12, 10) = 1
            price(13, 100) = 1
            begin(0, 0, 0, 0) = 1
            run(6) = 6
            thread(1, *) = 1 1 1 3 4 0 1 -1 1
            thread(2, *) = 1 1 1 3 4 0 1 -1 0
            lock(4, *) = 0 1 0 2 1 5 1
            run(4) = 4
            thread(1, *) = 0 1 1 3 -1 -1 1 -1 5
            thread(2, *) = 1 1 1 3 4 1 1 -1 4
            lock(4, *) = 1 2 0 2 9 9 3
            state(5) = 136
            run(1) = 1
            thread(1, *) = 0 1 1 4 -1 -1 2 -1 5
            state(5) = 146
            run(1) = 1
            lock(4, *) = 1 2 0 2 11 11 3
            run(1) = 1
            thread(1, *) = 3 0 -1 -1 -1 -1 4 -1 5
            thread(2, *) = 0 1 1 3 -1 -1 1 -1 7
            lock(4, *) = 2 3 0 2 12 12 7
            run(20000) = 3
            lock(4, *) = -1 3 0 2 12 15 7
            """);
        Due.play("JOIN WAITS till that thread has ended, by failure too; of one that has ended it needn't wait", """
            text `a(){x=start b();join x;join x;join start e();}b(){y=1;throw 1;}e(){}` = 3
            begin(0, 0, 0, 0) = 1
            run(2) = 2
            thread(0, *) = 2 1 0 4 1 1 2 -1 0
            run(2) = 2
            thread(0, *) = 0 1 0 4 -1 -1 2 -1 2
            thread(1, *) = 4 0 -1 -1 -1 -1 2 0 0
            run(2) = 2
            thread(0, *) = 0 1 0 6 -1 -1 4 -1 2
            run(9) = 1
            state(*) = 2 7 -1 3
            thread(0, 8) = 2
            """);
        Due.play("LOCK: thread 0 WAITS for one that another thread has; what is told in the midst of that", """
            text `a(){x=start b();join start d();lock 1{y=1;}}b(){lock 1{join 2;w=1;w=2;}}d(){z=1;}` = 3
            begin(0, 0, 0, 0) = 1
            run(9) = 9
            lock(1, *) = 1 1 0 1 2 6 2
            thread(0, *) = 1 1 0 5 1 1 4 -1 5
            run(20000) = 5
            lock(1, *) = -1 2 0 1 4 11 3
            thread(0, *) = 3 0 -1 -1 -1 -1 7 -1 7
            """);
        Due.play("8 a join of itself, in another thread than the first, too", """
            text `a(){x=start b();join x;}b(){try{join 1;}catch e{print e;}join 0;}` = 2
            begin(0, 0, 0, 0) = 1
            run(20000) = 6
            printed(0) = 8
            state(*) = 3 6 -1
            thread(0, *) = 2 1 0 4 1 1 2 -1 4
            thread(1, *) = 2 1 1 6 0 0 4 -1 0
            """);
    }

    private static void turns() {
        Due.play("TURNS with another seed: s becomes (s * 1103515245 + 12345) modulo 2147483648", """
            text `a(){x=start b();x=start b();while(1){}}b(){while(1){}}c(){x=1;x=2;x=3;x=start b();x=start b();while(1){}}d(){x=1;x=2;x=3;x=4;x=5;x=start b();while(1){}}e(){for i=1 to 0{}x=start b();while(1){}}` = 5
            begin(0, 1, 0, 0) = 1
            turns(40) = 0 1 0 1 1 2 0 0 0 0 1 2 0 0 2 2 0 0 0 0 2 1 2 0 0 0 0 2 1 2 2 2 2 1 2 2 1 1 0 0
            begin(0, 2147483647, 0, 0) = 1
            turns(40) = 1 1 0 0 1 2 2 2 1 2 2 1 0 1 1 1 0 1 1 1 0 1 2 1 0 2 0 2 2 1 0 2 0 1 0 0 1 2 0 2
            begin(2, 65536, 0, 0) = 1
            turns(40) = 0 0 0 0 1 2 0 1 0 1 2 0 1 2 2 1 2 2 1 0 0 1 1 1 2 2 1 0 2 1 0 1 2 2 0 0 1 1 2 0
            begin(3, 1073741824, 0, 0) = 1
            turns(40) = 0 0 0 0 0 1 1 1 0 0 1 0 1 0 1 1 0 1 0 1 0 1 1 1 0 1 0 0 0 1 0 1 0 0 1 0 0 1 1 0
            """);
        Due.play("TURNS with another seed: of 8 threads", """
            text `a(){x=start b();x=start b();x=start b();x=start b();x=start b();x=start b();x=start b();while(1){}}b(){while(1){}}` = 2
            begin(0, 12345, 0, 0) = 1
            turns(40) = 0 1 1 0 3 1 1 2 2 1 0 4 3 2 0 4 1 2 3 0 1 0 7 0 5 4 4 4 5 2 3 6 0 3 2 2 7 7 6 7
            begin(0, 2147483646, 0, 0) = 1
            turns(40) = 1 0 1 0 0 3 4 3 2 2 0 0 1 2 2 5 4 1 5 4 2 2 0 6 3 2 7 4 2 0 7 7 6 4 2 7 2 4 5 2
            begin(0, 2147483646, 0, 0) = 1
            state(2) = 0
            """);
        Due.play("TURNS with seed 0: till it waits or has ended, then the lowest one that can go has it", """
            text `a(){x=start b();x=start b();x=start c();join 3;print 0;}b(){print 1;lock 1{print 2;}}c(){print 3;join 1;print 4;}` = 3
            begin(0, 0, 0, 0) = 1
            turns(20) = 0 0 0 1 1 1 1 2 2 2 2 3 3 3 0 0 -1 -1 -1 -1
            printed(*) = 1 2 1 2 3 4 0 0
            """);
    }

    private static void conditions() {
        Due.play("A run is SPENT behind 20,000 steps", """
            text `a(){while(1){}}` = 1
            begin(0, 0, 0, 0) = 1
            run(19999) = 19999
            state(*) = 1 19999 0
            run(20000) = 1
            state(*) = 4 20000 -1 1 0 20000
            run(20000) = 0
            run(0) = 0
            thread(0, *) = 0 1 0 3 -1 -1 20000 -1 0
            loop(0, 0, *) = 3 1 20000 -1 -1 0 0 0 0
            look() = 0
            keep(1) = 1
            longest(0) = 20000
            """);
        Due.play("STUCK, ENDED ahead of SPENT: at the 20,000th step", """
            text `a(){for i=1 to 9999{x=i;}}b(){for i=1 to 9998{x=i;}x=1;y=x;join 0;}c(){for i=1 to 9997{x=i;}x=start d();x=1;join 1;}d(){join 0;}` = 4
            begin(0, 0, 0, 0) = 1
            run(20000) = 20000
            state(*) = 2 20000 -1
            begin(1, 0, 0, 0) = 1
            run(20000) = 20000
            state(*) = 4 20000 -1
            begin(2, 0, 0, 0) = 1
            run(20000) = 20000
            state(*) = 3 20000 -1
            """);
        Due.play("A run is STUCK when all that have not ended WAIT, ENDED when all have ended", """
            text `a(){x=start b();x=start c();}b(){join 2;}c(){join 1;}d(){x=start e();}e(){y=1;}` = 5
            begin(0, 0, 0, 0) = 1
            run(20000) = 4
            state(*) = 3 4 -1 3
            thread(0, 0) = 3
            thread(1, *) = 2 1 1 3 2 2 1 -1 1
            thread(2, *) = 2 1 2 3 1 1 1 -1 0
            run(5) = 0
            begin(3, 0, 0, 0) = 1
            run(1) = 1
            state(*) = 1 1 1 2
            run(1) = 1
            state(*) = 2 2 -1 2
            """);
    }

    private static void asked() {
        Due.play("Promise 9: a KIND (3 .. 16), or an element (17), 0 .. 1000: NONE for others, which leaves all as it was", """
            price(3, 0) = 1
            price(3, 1000) = 0
            price(16, 1000) = 1
            price(17, 1000) = 0
            outside price(3..17, 0..1000) = -1
            price(3, 1) = 1000
            price(16, 1) = 1000
            price(17, 0) = 1000
            price(4, 1) = 1
            price(15, 1) = 1
            """);
        Due.play("Promise 9: from the next begin() on", """
            text `a(){x=1;x=new[2];}` = 1
            begin(0, 0, 0, 0) = 1
            price(3, 1000) = 1
            price(17, 1000) = 0
            run(9) = 2
            state(5) = 2
            gain(17, 1) = 4
            begin(0, 0, 0, 0) = 1
            run(9) = 2
            state(5) = 4000
            longest(0) = 4000
            price(3, 0) = 1000
            price(17, 0) = 1000
            begin(0, 0, 0, 0) = 1
            run(9) = 2
            state(5) = 0
            longest(0) = 0
            """);
        Due.play("Promise 10: argument i (0 .. 3): NONE for others, or the least int, which leave all as it was", """
            argument(0, 2147483647) = 0
            argument(3, -2147483647) = 0
            argument(0, -2147483648) = -1
            argument(3, -2147483648) = -1
            outside argument(0..3, -2147483647..2147483647) = -1
            argument(0, 0) = 2147483647
            argument(3, 0) = -2147483647
            argument(1, -1) = 0
            argument(1, 0) = -1
            """);
        Due.play("Promise 10: of runs from now on", """
            text `a(p,q,r,s){print p;print s;}b(p,q){print p-q;}c(){}` = 3
            argument(0, 5) = 0
            argument(3, 6) = 0
            begin(0, 0, 0, 0) = 1
            argument(0, 7) = 5
            argument(1, 4) = 0
            run(9) = 2
            printed(*) = 5 6
            begin(1, 0, 0, 0) = 1
            run(9) = 1
            printed(*) = 3
            begin(2, 0, 0, 0) = 1
            state(0) = 2
            """);
        Due.play("Promise 11: behind each step whose number every divides there is a LOOK (0: none)", """
            text `a(){x=1;x=2;x=3;x=4;}` = 1
            begin(0, 0, 0, 1) = 1
            run(3) = 3
            state(8) = 3
            run(9) = 1
            state(8) = 4
            seen(*, 0) = 1 2 3 4 -1
            begin(0, 0, 0, 2) = 1
            run(9) = 4
            seen(*, 0) = 2 4 -1
            begin(0, 0, 0, 3) = 1
            run(9) = 4
            seen(*, 0) = 3 -1
            begin(0, 0, 0, 4) = 1
            run(9) = 4
            seen(*, 0) = 4 -1
            begin(0, 0, 0, 5) = 1
            run(9) = 4
            state(8) = 0
            begin(0, 0, 0, 2147483647) = 1
            run(9) = 4
            state(8) = 0
            begin(0, 0, 0, 0) = 1
            run(9) = 4
            state(8) = 0
            """);
        Due.play("Promises 12, 13, 14, 15: each first and last number, the ones below and above, without a run", """
            outside run(0..-1) = -1
            run(0) = -1
            run(20000) = -1
            state(*) = 0 -1 -1 -1 -1 -1 -1 -1 -1 -1 -1
            outside state(0..9) = -1
            printed(0) = 0
            thread(0, 0) = -1
            text `a(){print 7;x=start b();}b(){}` = 2
            run(0) = -1
            state(*) = 0 -1 -1 -1 -1 -1 -1 -1 -1 -1 -1
            begin(0, 0, 0, 0) = 1
            outside run(0..20000) = -1
            run(0) = 0
            outside state(0..9) = -1
            printed(0) = 0
            outside thread(0..0, 0..8) = -1
            thread(0, *) = 0 1 0 3 -1 -1 0 -1 0 -1
            run(20000) = 2
            outside printed(0..0) = 0
            printed(*) = 7 0
            outside thread(0..1, 0..8) = -1
            thread(0, *) = 3 0 -1 -1 -1 -1 2 -1 0 -1
            thread(1, *) = 3 0 -1 -1 -1 -1 0 -1 0 -1
            state(*) = 2 2 -1 2 1 2 2 0 0 4 -1
            """);
        Due.play("Promise 15: steps done while it WAITED: up to the one that let it go on, that too, or to now", """
            text `a(){lock 1{x=start b();x=start b();x=1;x=2;}join 1;join 2;}b(){lock 1{y=1;}}` = 2
            begin(0, 0, 0, 0) = 1
            run(3) = 3
            thread(1, 8) = 0
            run(3) = 3
            state(2) = 0
            run(1) = 1
            thread(0, *) = 2 1 0 9 1 1 7 -1 0
            run(3) = 3
            thread(0, *) = 0 1 0 9 -1 -1 7 -1 3
            run(1) = 1
            thread(0, *) = 0 1 0 10 -1 -1 8 -1 3
            run(1) = 1
            thread(0, *) = 2 1 0 10 2 2 9 -1 3
            run(2) = 2
            thread(0, *) = 2 1 0 10 2 2 9 -1 5
            run(20000) = 2
            thread(0, *) = 3 0 -1 -1 -1 -1 10 -1 6
            state(*) = 2 16
            """);
    }

    private static void refused() {
        Due.play("Promise 11: NONE, doing nothing, when one of these can't be", """
            outside begin(0..-1, 0..2147483647, 0..1, 0..2147483647) = -1
            begin(0, 0, 0, 0) = -1
            text `a(){x=7;print x;x=8;}b(){}` = 2
            watch(1, 0, 3) = 1
            begin(0, 9, 1, 1) = 1
            run(2) = 2
            outside begin(0..1, 0..2147483647, 0..1, 0..2147483647) = -1
            state(*) = 1 2 0 1 1 2 0 0 2 3
            printed(0) = 7
            kept(1, 0, *) = 7 1
            run(9) = 1
            begin(1, 2147483647, 1, 2147483647) = 1
            state(0) = 2
            kept(1, 0, *) = 0 0
            """);
        Due.play("Promises 12 to 15: a call that is NONE leaves the run as it was", """
            text `a(){while(1){x=x+1;}}` = 1
            begin(0, 5, 0, 0) = 1
            run(3) = 3
            outside run(0..20000) = -1
            outside thread(0..0, 0..8) = -1
            outside state(0..9) = -1
            state(*) = 1 3 0 1 0 3
            run(2) = 2
            state(1) = 5
            """);
    }
}
