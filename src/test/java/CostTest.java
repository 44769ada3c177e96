/** Plays for the promises that their titles name; see Due for what the lines mean. */
public final class CostTest {
    public static void main(String[] arguments) {
        Due.play("Promise 21: the TREE of calls, OWN and WHOLE cost", """
            text `a(){b();c();b();x=new[2];}b(){c();y=new[3];}c(){z=1;z=2;}` = 3
            price(17, 10) = 0
            price(3, 2) = 1
            begin(0, 0, 0, 0) = 1
            tree(0, *) = -1 -1 0 0 0 1 -1 -1
            tree(1, *) = 0 -1 0 0 0 -1 2
            tree(2, *) = 0 0 1 0 0 -1 -1
            tree(3, 0) = -1
            run(20000) = 14
            tree(0, *) = -1 -1 0 0 103 1 -1
            tree(1, *) = 0 -1 0 0 0 -1 2
            tree(2, *) = 0 0 1 25 103 3 -1
            tree(3, *) = 2 1 2 66 74 4 5
            tree(4, *) = 3 2 2 8 8 -1 -1
            tree(5, *) = 2 2 1 4 4 -1 -1
            tree(6, 0) = -1
            tree(-1, 0) = -1
            tree(0, -1) = -1
            state(5) = 103
            state(9) = 6
            """);
        Due.play("Promise 21: FOLD 1 takes the nearest above that has the member", """
            text `a(n){if(n){b(n-1);}}b(n){a(n);c(n);}c(n){if(n){b(n-1);}}` = 3
            argument(0, 3) = 0
            begin(0, 0, 1, 0) = 1
            run(20000) = 36
            trees(6) = -1 -1 0 0 36 1 -1 / 0 -1 0 0 0 -1 2 / 0 0 8 12 36 3 -1 / 2 1 7 14 24 4 -1 / 3 2 7 10 10 -1 -1 / -1 -1 -1 -1 -1 -1 -1
            begin(0, 0, 0, 0) = 1
            run(20000) = 36
            trees(14) = -1 -1 0 0 36 1 -1 / 0 -1 0 0 0 -1 2 / 0 0 1 2 36 3 -1 / 2 1 1 2 34 4 -1 / 3 0 1 2 16 5 14 / 4 1 1 2 14 6 -1 / 5 0 1 2 6 7 10 / 6 1 1 2 4 8 -1 / 7 0 1 1 1 -1 9 / 7 2 1 1 1 -1 -1 / 5 2 1 2 6 11 -1 / 10 1 1 2 4 12 -1 / 11 0 1 1 1 -1 13 / 11 2 1 1 1 -1 -1
            state(9) = 24
            """);
        Due.play("Promise 21: threads are called by the HOUSE", """
            text `a(){x=start b();x=start b();x=start a1();b();}b(){y=1;}a1(){b();}` = 3
            begin(0, 0, 1, 0) = 1
            run(20000) = 9
            trees(6) = -1 -1 0 0 9 1 -1 / 0 -1 0 0 0 -1 2 / 0 0 1 4 5 5 3 / 0 1 2 2 2 -1 4 / 0 2 1 1 2 6 -1 / 2 1 1 1 1 -1 -1
            begin(0, 0, 0, 0) = 1
            run(20000) = 9
            trees(7) = -1 -1 0 0 9 1 -1 / 0 -1 0 0 0 -1 2 / 0 0 1 4 5 5 3 / 0 1 2 2 2 -1 4 / 0 2 1 1 2 6 -1 / 2 1 1 1 1 -1 -1 / 4 1 1 1 1 -1 -1
            """);
        Due.play("Promise 21: 200 nodes, then OTHER", """
            text `a(n){if(n<8){a(n+1);b(n+1);}}b(n){if(n<8){a(n+1);b(n+1);}}` = 2
            begin(0, 0, 0, 0) = 1
            run(20000) = 1021
            state(9) = 200
            tree(0, *) = -1 -1 0 0 1021 1 -1
            tree(1, *) = 0 -1 313 619 619 -1 2
            tree(2, *) = 0 0 1 3 402 3 -1
            tree(199, *) = 198 0 1 3 3 -1 -1
            tree(200, 0) = -1
            begin(0, 0, 1, 0) = 1
            run(20000) = 1021
            state(9) = 4
            trees(4) = -1 -1 0 0 1021 1 -1 / 0 -1 0 0 0 -1 2 / 0 0 256 512 1021 3 -1 / 2 1 255 509 509 -1 -1
            """);
        Due.play("Promise 27: the LONGEST WAY with starts and joins", """
            text `a(){x=start b();y=1;y=2;join x;y=3;}b(){z=1;z=2;z=3;z=4;z=5;z=6;}` = 2
            begin(0, 0, 0, 0) = 1
            longest(0) = 0
            run(1) = 1
            longest(0) = 1
            run(20000) = 11
            state(1) = 12
            longest(*) = 9 12 9 9 9 9 9 9
            longest(1000) = 9
            longest(1001) = -1
            longest(-1) = -1
            """);
        Due.play("Promise 27: the LONGEST WAY with locks: behind the latest step that let it go", """
            text `a(){x=start b();lock 1{y=1;y=2;}}b(){lock 1{z=1;z=2;}w=1;}` = 2
            price(12, 10) = 1
            begin(0, 0, 0, 0) = 1
            run(20000) = 10
            longest(0) = 28
            longest(1) = 28
            begin(0, 3, 0, 0) = 1
            run(20000) = 11
            longest(0) = 27
            begin(0, 12, 0, 0) = 1
            run(20000) = 10
            longest(0) = 27
            """);
        Due.play("Promise 27: a lock let go to one that waits, a JOIN that waits", """
            text `a(){lock 1{x=start b();x=start b();join c();}join 1;join 2;}b(){lock 1{z=1;}}c(){return start d();}d(){y=1;y=2;y=3;}` = 4
            begin(0, 0, 0, 0) = 1
            run(20000) = 22
            state(*) = 2 22 -1 4 0 22
            longest(0) = 17
            longest(2) = 17
            gain(3, 10) = 80
            gain(14, 10) = 68
            gain(12, 10) = 46
            gain(13, 0) = 14
            """);
        Due.play("Promise 27: a step is not behind itself, one that goes on in several JOINs is behind all", """
            text `a(){join j(start b());}j(p){join p;}b(){x=1;x=2;}c(){lock f(){}}f(){lock 1{return 1;}}g(){join start e();}e(){}` = 7
            begin(0, 0, 0, 0) = 1
            run(20000) = 5
            state(*) = 2 5 -1 2
            longest(0) = 4
            begin(3, 0, 0, 0) = 1
            run(20000) = 4
            longest(0) = 4
            lock(1, *) = -1 2 0 0 0 2 1
            begin(5, 0, 0, 0) = 1
            run(20000) = 1
            longest(0) = 1
            gain(14, 3) = 3
            """);
        Due.play("Promise 28: another price, of a KIND or of an element", """
            text `a(){x=start b();y=new[5];join x;}b(){z=1;z=2;}` = 2
            price(17, 2) = 0
            begin(0, 0, 0, 0) = 1
            run(20000) = 6
            longest(0) = 14
            gain(3, 0) = 12
            gain(3, 9) = 30
            gain(14, 5) = 22
            gain(17, 0) = 4
            gain(17, 1000) = 5004
            gain(16, 1000) = 14
            gain(2, 1) = -1
            gain(18, 1) = -1
            gain(3, -1) = -1
            gain(3, 1001) = -1
            longest(0) = 14
            state(5) = 16
            price(3, 5) = 1
            gain(14, 1) = 14
            """);
        Due.play("Promises 32, 33: what parts two runs", """
            text `var v;a(n){for i=1 to n{b(i);}c();}b(n){x=new[n];y=1;}c(){if(v){d();}}d(){z=1;}e(){}` = 5
            price(17, 1) = 0
            argument(0, 3) = 0
            parts(0, 0) = 0
            keep(0) = -1
            begin(0, 0, 0, 0) = 1
            run(20000) = 16
            keep(0) = 1
            parts(0, 0) = 0
            argument(0, 5) = 3
            begin(0, 0, 0, 0) = 1
            run(20000) = 24
            keep(1) = 1
            keep(2) = -1
            keep(-1) = -1
            parts(0, *) = 4 0 0 4 0
            parts(1, *) = 13 8 0 5 0
            parts(2, *) = 0 0 0 0
            parts(3, *) = 0 0 0 0
            parts(4, *) = 0 0 0 0
            parts(5, *) = 0 0 0 0
            parts(-1, 0) = 0
            parts(0, -1) = 0
            argument(0, 1) = 5
            begin(0, 0, 0, 0) = 1
            run(8) = 8
            keep(1) = 1
            parts(0, *) = -4 0 0 -4
            parts(1, *) = -9 -8 0 -1
            begin(3, 0, 0, 0) = 1
            run(8) = 1
            keep(1) = 1
            parts(0, *) = -9 -9 0 0
            parts(1, *) = -12 -12 0 0
            parts(3, *) = 1 0 1 0
            weigh(0) = 1
            parts(3, *) = 1 0 1 0
            keep(0) = -1
            """);
        Due.play("Promise 33: rounded down, below 0 too", """
            text `var v;a(){b();b();b();c();}b(){v=v+1;}c(){}d(){b();b();}f(){b();b();b();b();}` = 5
            price(3, 7) = 1
            begin(0, 0, 0, 0) = 1
            run(3) = 3
            keep(0) = 1
            begin(3, 0, 0, 0) = 1
            run(20000) = 4
            keep(1) = 1
            parts(1, *) = 7 0 0 7
            parts(0, *) = -2 -2 0 0
            begin(4, 0, 0, 0) = 1
            run(20000) = 8
            keep(0) = 1
            begin(0, 0, 0, 0) = 1
            run(20000) = 7
            keep(1) = 1
            parts(1, *) = -7 -7 0 0
            parts(2, *) = 0 0 0 0
            """);
        Due.play("Promise 21: WHOLE asked for first", """
            text `a(){b();b();}b(){x=1;}` = 2
            begin(0, 0, 0, 0) = 1
            run(20000) = 4
            tree(0, 4) = 4
            tree(2, 4) = 4
            tree(3, 4) = 2
            """);
        Due.play("Promise 27: a JOIN that needn't wait is behind the latest step of that thread, too", """
            text `a(){x=start b();y=start c(x);join y;}b(){z=1;z=2;z=3;z=4;z=5;z=6;z=7;z=8;z=9;}c(p){join p;}` = 3
            begin(0, 0, 0, 0) = 1
            run(20000) = 14
            state(1) = 14
            thread(2, 8) = 0
            longest(0) = 12
            gain(3, 0) = 2
            gain(3, 2) = 22
            gain(14, 9) = 28
            """);
        Due.play("Promise 27: a LOCK that needn't wait is behind the latest step that let it go, of another thread", """
            text `a(){x=start b();y=start c();}b(){lock 1{z=1;z=2;z=3;z=4;z=5;}}c(){lock 1{w=1;}}` = 3
            begin(0, 0, 0, 0) = 1
            run(20000) = 12
            lock(1, *) = -1 2 0 0 0 8 6
            longest(0) = 11
            longest(1) = 12
            gain(13, 5) = 19
            """);
        Due.play("Promise 33: places are empty behind a text", """
            text `a(){x=1;}` = 1
            begin(0, 0, 0, 0) = 1
            run(9) = 1
            keep(0) = 1
            keep(1) = 1
            text `a(){x=1;x=2;}b(){}` = 2
            begin(0, 0, 0, 0) = 1
            run(9) = 2
            keep(0) = 1
            parts(0, *) = 0 0 0 0
            text `a(){x=1;x=2;}b(){}` = 2
            begin(0, 0, 0, 0) = 1
            run(9) = 2
            keep(1) = 1
            parts(0, *) = 0 0 0 0
            begin(1, 0, 0, 0) = 1
            keep(0) = 1
            parts(0, *) = 2 0 2 0
            parts(1, *) = 0 0 0 0
            """);
        Due.end("CostTest");
    }
}
